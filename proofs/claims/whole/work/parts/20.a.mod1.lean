def asN (sd nw : Int → Int) : Nat → Bool
  | 0 => true
  | k + 1 => asN sd nw k && decide (sd (k : Int) = nw (k : Int))
theorem asN_s {sd nw : Int → Int} {i : Int} (h : 0 ≤ i) : asN sd nw (i + 1).toNat = (asN sd nw i.toNat && decide (sd i = nw i)) := by
  obtain ⟨k, rfl⟩ := Int.eq_ofNat_of_zero_le h
  rw [show ((k : Int) + 1).toNat = k + 1 by omega, show ((k : Int)).toNat = k by omega]
  rfl
theorem asN_t {sd nw : Int → Int} {i : Int} (h : 0 ≤ i) (h1 : bZ (asN sd nw i.toNat = true) ≠ 0) (h2 : sd i = nw i) : bZ (asN sd nw (i + 1).toNat = true) = 1 := by
  refine bZ_t ?_
  rw [asN_s h, decide_eq_true h2, Bool.and_true]
  exact Decidable.byContradiction (fun q => h1 (bZ_f q))
theorem asN_f1 {sd nw : Int → Int} {i : Int} (h : 0 ≤ i) (h1 : bZ (asN sd nw i.toNat = true) = 0) : bZ (asN sd nw (i + 1).toNat = true) = 0 := by
  refine bZ_f (fun q => ?_)
  rw [asN_s h, Bool.and_eq_true] at q
  rw [bZ_t q.1] at h1
  omega
theorem asN_f2 {sd nw : Int → Int} {i : Int} (h : 0 ≤ i) (h1 : sd i ≠ nw i) : bZ (asN sd nw (i + 1).toNat = true) = 0 := by
  refine bZ_f (fun q => ?_)
  rw [asN_s h, Bool.and_eq_true] at q
  exact h1 (of_decide_eq_true q.2)
theorem zu_zu (g : Int → Int) (i v w : Int) : zu (zu g i v) i w = zu g i w := by
  funext k
  unfold zu
  split <;> rfl
theorem zP_arr {D : va_G} {cl : List vw_C} {ws ws' : va_W} {H : Heap} {A : Nat → Prop} {q0 a n : Nat} {cA : ClassId} {f g : Int → Int} (hP : va_P D cl ws H) (hD : va_D A ws) (ha : ws[q0]? = some (a, .inl (cA, n, .inl (zA f)))) (h : ∀ j : Int, 0 ≤ j → j < (n : Int) → f j = g j) (hw : ws.set q0 (a, .inl (cA, n, .inl (zA g))) = ws') : va_P D cl ws' H ∧ va_D A ws' := by
  subst hw
  refine ⟨fun k q hq => ?_, hD.set ha⟩
  by_cases hk : q0 = k
  · subst hk
    have hl := (List.getElem?_eq_some_iff.mp ha).1
    rw [List.getElem?_set_self hl] at hq
    cases hq
    have h1 : H[a]? = some (vp_cell cA (n, .inl (zA f))) := hP q0 _ ha
    show H[a]? = some (vp_cell cA (n, .inl (zA g)))
    rw [h1]
    congr 1
    show arrV cA n (fun j => .int (zA f j)) = arrV cA n (fun j => .int (zA g j))
    unfold arrV
    congr 2
    funext j
    show Value.int (zI (f (j.val : Int))) = Value.int (zI (g (j.val : Int)))
    rw [h (j.val : Int) (by omega) (by have := j.isLt; omega)]
  · rw [List.getElem?_set_ne hk] at hq
    exact hP k q hq
theorem goS_9 {n : Int} {so le ri ti : Int → Int} (hh : hOk n so le ri ti) {lod sz : Int} {st : Int → Int} {k : Int} (h0 : 0 ≤ k) (h1 : k < n) : goS so le ri ti lod sz 9 st k =
    if k = lod then (st, -9)
    else if so k = 0 then (st, k)
    else if so k = 1 then goS so le ri ti lod sz 9 (zu st k (if st k + 1 < 2 * ti k then st k + 1 else 0)) (if st k < ti k then le k else ri k)
    else if so k = 2 then goS so le ri ti lod sz 9 st (if sz = 0 then le k else ri k)
    else if st k + 1 < ti k then (zu st k (st k + 1), -9)
    else goS so le ri ti lod sz 9 (zu st k 0) (le k) := by
  obtain ⟨w1, w2, w3, w4, w5, w6, w7, w8⟩ := hh.2 k h0 h1
  have hn := hh.1
  have e : ∀ (su : Int → Int) (j : Int), 0 ≤ j → j < k → goS so le ri ti lod sz 9 su j = goS so le ri ti lod sz 8 su j := fun su j j0 j1 => goS_fuel hh lod sz 9 8 su j j0 (by omega) (by omega) (by omega)
  rw [show (9 : Nat) = 8 + 1 from rfl, goS_succ]
  split
  · rfl
  · split
    · rfl
    · split
      · exact (e _ _ (by split <;> omega) (by split <;> omega)).symm
      · split
        · exact (e _ _ (by split <;> omega) (by split <;> omega)).symm
        · split
          · rfl
          · exact (e _ _ (by omega) (by omega)).symm
set_option maxHeartbeats 4000000 in
set_option maxRecDepth 100000 in
theorem c_X6_in (l : Launch) (dC : Nat → ClassId) (dI : Nat → Nat → Nat) (cI cB cZ : ClassId) (v : Int) (a : Int) (b : Int) (hv : -2147483648 ≤ v ∧ v ≤ 2147483647) (ha : -2147483648 ≤ a ∧ a ≤ 2147483647) (hb0 : -2147483648 ≤ b ∧ b ≤ 2147483647) : MetR l yX6_in wsX6_in ({ frames := 0, cells := 0, slots := 0, locals := 0 }) (dC, dI) vwCl (zT cI cB cZ) zN [] [.int (zI v), .int (zI a), .int (zI b)] (zI (bZ (a ≤ v ∧ v ≤ b))) := by
  refine MetR.intro (cc := cX6_in) (maxL := 3) (ret := (some .boolean)) (by decide) rfl (Nat.le_of_ble_eq_true rfl) ?_
  intro p e s m args below meth c hx hb hr hlocks hml hts hown hP hK hE ls hl
  have hown : s.vm.findClass RX6 = some m.cls := hown
  have hl : lv_has ls 3 [(0, .int (zI v)), (1, .int (zI a)), (2, .int (zI b))] := hl
  generalize hRM : ({ frames := 0, cells := 0, slots := 0, locals := 0 } : Room) = RM
  generalize hQQ : MQ below (vp_Si (fun r => r = zI (bZ (a ≤ v ∧ v ≤ b)))) args s 0 0 (fun _ => False) = QQ
  refine lv_iload_n hx hb dX6_in_0 rfl (lv_at hl 0 rfl) ?_
  refine lv_iload_n hx hb dX6_in_1 rfl (lv_at hl 1 rfl) ?_
  refine zv_icmp_lt (tgt := 14) hx hb (by omega) (by omega) dX6_in_2 (by decide) (fun c_2 => ?_) (fun c_2 => ?_)
  · refine zv_iconst hx hb dX6_in_14 ?_
    rw [← hQQ]
    exact zr_zret hx hb hr hlocks (by first | exact z_nar_bool | rfl) (congrArg zI (show 0 = bZ (a ≤ v ∧ v ≤ b) from by first | rfl | omega | exact (bZ_t (by omega)).symm | exact (bZ_f (by omega)).symm)) dX6_in_15
  · refine lv_iload_n hx hb dX6_in_5 rfl (lv_at hl 0 rfl) ?_
    refine lv_iload_n hx hb dX6_in_6 rfl (lv_at hl 2 rfl) ?_
    refine zv_icmp_gt (tgt := 14) hx hb (by omega) (by omega) dX6_in_7 (by decide) (fun c_7 => ?_) (fun c_7 => ?_)
    · refine zv_iconst hx hb dX6_in_14 ?_
      rw [← hQQ]
      exact zr_zret hx hb hr hlocks (by first | exact z_nar_bool | rfl) (congrArg zI (show 0 = bZ (a ≤ v ∧ v ≤ b) from by first | rfl | omega | exact (bZ_t (by omega)).symm | exact (bZ_f (by omega)).symm)) dX6_in_15
    · refine zv_iconst hx hb dX6_in_10 ?_
      refine lv_goto (tgt := 15) hx hb dX6_in_11 (by decide) ?_
      rw [← hQQ]
      exact zr_zret hx hb hr hlocks (by first | exact z_nar_bool | rfl) (congrArg zI (show 1 = bZ (a ≤ v ∧ v ≤ b) from by first | rfl | omega | exact (bZ_t (by omega)).symm | exact (bZ_f (by omega)).symm)) dX6_in_15
set_option maxHeartbeats 4000000 in
set_option maxRecDepth 100000 in
theorem c_X6_isPart (l : Launch) (dC : Nat → ClassId) (dI : Nat → Nat → Nat) (cI cB cZ : ClassId) (a0 : Nat) (a1 : Nat) (a2 : Nat) (a3 : Nat) (a4 : Nat) (a5 : Nat) (a6 : Nat) (a7 : Nat) (a8 : Nat) (a9 : Nat) (a10 : Nat) (a11 : Nat) (a12 : Nat) (a13 : Nat) (a14 : Nat) (a15 : Nat) (a16 : Nat) (a17 : Nat) (mtr : Int64) (tx : Int → Int) (ty : Int) (pa : Int → Int) (ms : Int → Int) (ml : Int → Int) (mr : Int → Int) (mt : Int → Int) (mat : Int) (mst : Int) (mso : Int) (mva : Int) (mfa : Int) (nw : Int → Int) (ik : Int → Int) (sd : Int → Int) (mlo : Int) (ra : Int → Int) (rm : Int) (bg : Int → Int) (to : Int → Int) (tm : Int) (cd : Int → Int) (fi : Int → Int) (tsz : Int → Int) (tcm : Int → Int) (tmy : Int) (mg : Int → Int) (k : Int) (hp : 0 ≤ pa 0 ∧ pa 0 ≤ 9) (hk : -2147483648 ≤ k ∧ k ≤ 2147483647) : MetR l yX6_isPart wsX6_isPart ({ frames := 1, cells := 0, slots := 0, locals := 22 }) (dC, dI) vwCl (zT cI cB cZ) zN [(a0, .inr (5, [.long mtr, .ref a1, .int (zI ty), .ref a2, .ref a3, .ref a4, .ref a5, .ref a6, .int (zI mat), .int (zI mst), .int (zI mso), .int (zI mva), .int (zI mfa), .ref a7, .ref a8, .ref a9, .int (zI mlo), .ref a10, .int (zI rm), .ref a11, .ref a12, .int (zI tm), .ref a13, .ref a14, .ref a15, .ref a16, .int (zI tmy), .ref a17])), (a1, .inl (cB, 200, .inl (zA tx))), (a2, .inl (cI, 2, .inl (zA pa))), (a3, .inl (cI, 18, .inl (zA ms))), (a4, .inl (cI, 18, .inl (zA ml))), (a5, .inl (cI, 18, .inl (zA mr))), (a6, .inl (cI, 18, .inl (zA mt))), (a7, .inl (cI, 1143, .inl (zA nw))), (a8, .inl (cZ, 2, .inl (zA ik))), (a9, .inl (cI, 9, .inl (zA sd))), (a10, .inl (cI, 9, .inl (zA ra))), (a11, .inl (cI, 9, .inl (zA bg))), (a12, .inl (cI, 4, .inl (zA to))), (a13, .inl (cI, 200, .inl (zA cd))), (a14, .inl (cI, 9, .inl (zA fi))), (a15, .inl (cI, 9, .inl (zA tsz))), (a16, .inl (cI, 9, .inl (zA tcm))), (a17, .inl (cI, 10, .inl (zA mg)))] [.ref a0, .int (zI k)] (zI (bZ (0 ≤ k ∧ k < pa 0))) := by
  refine MetR.intro (cc := cX6_isPart) (maxL := 2) (ret := (some .boolean)) (by decide) rfl (Nat.le_of_ble_eq_true rfl) ?_
  intro p e s m args below meth c hx hb hr hlocks hml hts hown hP hK hE ls hl
  have hown : s.vm.findClass RX6 = some m.cls := hown
  have hl : lv_has ls 2 [(0, .ref a0), (1, .int (zI k))] := hl
  generalize hRM : ({ frames := 1, cells := 0, slots := 0, locals := 22 } : Room) = RM
  generalize hQQ : MQ below (vp_Si (fun r => r = zI (bZ (0 ≤ k ∧ k < pa 0)))) args s 0 0 (fun _ => False) = QQ
  have in_X6 : ∀ w ∈ wsX60, w ∈ wsX6_isPart := by decide +kernel
  have w_0 := hts (.fieldLink RX6 13 "WallMarblesModel" "parts" "[I") (by decide +kernel)
  refine lv_iload_n hx hb dX6_isPart_0 rfl (lv_at hl 1 rfl) ?_
  refine zv_iconst hx hb dX6_isPart_1 ?_
  refine lv_aload_n hx hb dX6_isPart_2 rfl (lv_at hl 0 rfl) ?_
  refine va_get (D := (dC, dI)) (ci := 5) (v := .ref a2) (C := RX6) (T := TX6) (N := 28) hx hb hts in_X6 hown hK hP 0 rfl rfl 3 (by decide) w_0 (fun _ h9 => h9) rfl dX6_isPart_3 ?_
  refine zv_iconst hx hb dX6_isPart_6 ?_
  refine zv_iald hx hb hK hP 2 0 rfl rfl (by omega) dX6_isPart_7 ?_
  refine zv_iconst hx hb dX6_isPart_8 ?_
  refine zv_isub hx hb dX6_isPart_9 ?_
  refine zv_callRS (As := [.int (zI k), .int (zI 0), .int (zI ((pa 0) - 1))]) (rest := []) ⟨hx, hb, hml, hown, hts⟩ (c_X6_in l dC dI cI cB cZ k 0 ((pa 0) - 1) (by omega) (by omega) (by omega)) (va_cwS 3 hts gX6_isPart_X6_in rfl rfl rfl (by decide +kernel) ⟨by rw [← hRM]; first | decide | (dsimp only; omega), by rw [← hRM]; first | decide | (dsimp only; omega)⟩) hP hK [] rfl [0, 1, 2] rfl zN_bl (zN_go hE) rfl hl.1 rfl (Nat.le_of_ble_eq_true rfl) dX6_isPart_10 ⟨Nat.zero_le _, Nat.zero_le _⟩ ?_
  rw [← hQQ]
  exact zr_zret hx hb hr hlocks (by first | exact z_nar_bool | rfl) (congrArg zI (show bZ (0 ≤ k ∧ k ≤ ((pa 0) - 1)) = bZ (0 ≤ k ∧ k < pa 0) from by exact bZ_iff (by omega))) dX6_isPart_13
set_option maxHeartbeats 4000000 in
set_option maxRecDepth 100000 in
theorem c_X6_part (l : Launch) (dC : Nat → ClassId) (dI : Nat → Nat → Nat) (cI cB cZ : ClassId) (a0 : Nat) (a1 : Nat) (a2 : Nat) (a3 : Nat) (a4 : Nat) (a5 : Nat) (a6 : Nat) (a7 : Nat) (a8 : Nat) (a9 : Nat) (a10 : Nat) (a11 : Nat) (a12 : Nat) (a13 : Nat) (a14 : Nat) (a15 : Nat) (a16 : Nat) (a17 : Nat) (mtr : Int64) (tx : Int → Int) (ty : Int) (pa : Int → Int) (ms : Int → Int) (ml : Int → Int) (mr : Int → Int) (mt : Int → Int) (mat : Int) (mst : Int) (mso : Int) (mva : Int) (mfa : Int) (nw : Int → Int) (ik : Int → Int) (sd : Int → Int) (mlo : Int) (ra : Int → Int) (rm : Int) (bg : Int → Int) (to : Int → Int) (tm : Int) (cd : Int → Int) (fi : Int → Int) (tsz : Int → Int) (tcm : Int → Int) (tmy : Int) (mg : Int → Int) (k : Int) (w : Int) (hh : hOk (pa 0) ms ml mr mt) (hk : -2147483648 ≤ k ∧ k ≤ 2147483647) (hwr : -2147483648 ≤ w ∧ w ≤ 2147483647) : MetR l yX6_part wsX6_part ({ frames := 2, cells := 0, slots := 0, locals := 43 }) (dC, dI) vwCl (zT cI cB cZ) zN [(a0, .inr (5, [.long mtr, .ref a1, .int (zI ty), .ref a2, .ref a3, .ref a4, .ref a5, .ref a6, .int (zI mat), .int (zI mst), .int (zI mso), .int (zI mva), .int (zI mfa), .ref a7, .ref a8, .ref a9, .int (zI mlo), .ref a10, .int (zI rm), .ref a11, .ref a12, .int (zI tm), .ref a13, .ref a14, .ref a15, .ref a16, .int (zI tmy), .ref a17])), (a1, .inl (cB, 200, .inl (zA tx))), (a2, .inl (cI, 2, .inl (zA pa))), (a3, .inl (cI, 18, .inl (zA ms))), (a4, .inl (cI, 18, .inl (zA ml))), (a5, .inl (cI, 18, .inl (zA mr))), (a6, .inl (cI, 18, .inl (zA mt))), (a7, .inl (cI, 1143, .inl (zA nw))), (a8, .inl (cZ, 2, .inl (zA ik))), (a9, .inl (cI, 9, .inl (zA sd))), (a10, .inl (cI, 9, .inl (zA ra))), (a11, .inl (cI, 9, .inl (zA bg))), (a12, .inl (cI, 4, .inl (zA to))), (a13, .inl (cI, 200, .inl (zA cd))), (a14, .inl (cI, 9, .inl (zA fi))), (a15, .inl (cI, 9, .inl (zA tsz))), (a16, .inl (cI, 9, .inl (zA tcm))), (a17, .inl (cI, 10, .inl (zA mg)))] [.ref a0, .int (zI k), .int (zI w)] (zI (q_part (pa 0) ms ml mr mt nw (fun j => nw (9 + j)) k w)) := by
  refine MetR.intro (cc := cX6_part) (maxL := 3) (ret := (some .int)) (by decide) rfl (Nat.le_of_ble_eq_true rfl) ?_
  intro p e s m args below meth c hx hb hr hlocks hml hts hown hP hK hE ls hl
  have hown : s.vm.findClass RX6 = some m.cls := hown
  have hl : lv_has ls 3 [(0, .ref a0), (1, .int (zI k)), (2, .int (zI w))] := hl
  generalize hRM : ({ frames := 2, cells := 0, slots := 0, locals := 43 } : Room) = RM
  generalize hQQ : MQ below (vp_Si (fun r => r = zI (q_part (pa 0) ms ml mr mt nw (fun j => nw (9 + j)) k w))) args s 0 0 (fun _ => False) = QQ
  have in_X6 : ∀ w ∈ wsX60, w ∈ wsX6_part := by decide +kernel
  have w_0 := hts (.fieldLink RX6 17 "WallMarblesModel" "sorts" "[I") (by decide +kernel)
  have w_1 := hts (.fieldLink RX6 20 "WallMarblesModel" "lefts" "[I") (by decide +kernel)
  have w_2 := hts (.fieldLink RX6 23 "WallMarblesModel" "rights" "[I") (by decide +kernel)
  have w_3 := hts (.fieldLink RX6 26 "WallMarblesModel" "times" "[I") (by decide +kernel)
  have w_4 := hts (.fieldLink RX6 29 "WallMarblesModel" "now" "[I") (by decide +kernel)
  have hn := hh.1
  refine lv_aload_n hx hb dX6_part_0 rfl (lv_at hl 0 rfl) ?_
  refine lv_iload_n hx hb dX6_part_1 rfl (lv_at hl 1 rfl) ?_
  refine zv_callRVa (As := [.int (zI k)]) (rest := []) ⟨hx, hb, hml, hown, hts⟩ (c_X6_isPart l dC dI cI cB cZ a0 a1 a2 a3 a4 a5 a6 a7 a8 a9 a10 a11 a12 a13 a14 a15 a16 a17 mtr tx ty pa ms ml mr mt mat mst mso mva mfa nw ik sd mlo ra rm bg to tm cd fi tsz tcm tmy mg k (by omega) (by omega)) (cwV 1 hts gX6_part_X6_isPart rfl rfl rfl (by decide +kernel) ⟨by rw [← hRM]; first | decide | (dsimp only; omega), by rw [← hRM]; first | decide | (dsimp only; omega)⟩) hP hK zN_bl (zN_go hE) (q0 := 0) rfl rfl rfl rfl hl.1 rfl (Nat.le_of_ble_eq_true rfl) dX6_part_2 ⟨Nat.zero_le _, Nat.zero_le _⟩ ?_
  refine zv_ifne_b (tgt := 10) hx hb dX6_part_5 (by decide) (fun c_5 => ?_) (fun c_5 => ?_)
  · refine lv_iload_n hx hb dX6_part_10 rfl (lv_at hl 2 rfl) ?_
    rcases (show w = 0 ∨ w = 1 ∨ w = 2 ∨ w = 3 ∨ w = 4 ∨ w = 5 ∨ (w < 0 ∨ 5 < w) by omega) with c_11 | c_11 | c_11 | c_11 | c_11 | c_11 | c_11
    · refine zv_tableIn (k := 0) (tgt := 48) hx hb (by omega) c_11 (by omega) dX6_part_11 rfl (by decide) ?_
      refine lv_aload_n hx hb dX6_part_48 rfl (lv_at hl 0 rfl) ?_
      refine va_get (D := (dC, dI)) (ci := 5) (v := .ref a3) (C := RX6) (T := TX6) (N := 28) hx hb hts in_X6 hown hK hP 0 rfl rfl 4 (by decide) w_0 (fun _ h9 => h9) rfl dX6_part_49 ?_
      refine lv_iload_n hx hb dX6_part_52 rfl (lv_at hl 1 rfl) ?_
      refine zv_iald hx hb hK hP 3 0 rfl rfl (by omega) dX6_part_53 ?_
      rw [← hQQ]
      exact zr_iret hx hb hr hlocks (congrArg zI (show ms k = q_part (pa 0) ms ml mr mt nw (fun j => nw (9 + j)) k w from by unfold q_part; (repeat' split) <;> first | rfl | omega)) dX6_part_54
    · refine zv_tableIn (k := 1) (tgt := 55) hx hb (by omega) c_11 (by omega) dX6_part_11 rfl (by decide) ?_
      refine lv_aload_n hx hb dX6_part_55 rfl (lv_at hl 0 rfl) ?_
      refine va_get (D := (dC, dI)) (ci := 5) (v := .ref a4) (C := RX6) (T := TX6) (N := 28) hx hb hts in_X6 hown hK hP 0 rfl rfl 5 (by decide) w_1 (fun _ h9 => h9) rfl dX6_part_56 ?_
      refine lv_iload_n hx hb dX6_part_59 rfl (lv_at hl 1 rfl) ?_
      refine zv_iald hx hb hK hP 4 0 rfl rfl (by omega) dX6_part_60 ?_
      rw [← hQQ]
      exact zr_iret hx hb hr hlocks (congrArg zI (show ml k = q_part (pa 0) ms ml mr mt nw (fun j => nw (9 + j)) k w from by unfold q_part; (repeat' split) <;> first | rfl | omega)) dX6_part_61
    · refine zv_tableIn (k := 2) (tgt := 62) hx hb (by omega) c_11 (by omega) dX6_part_11 rfl (by decide) ?_
      refine lv_aload_n hx hb dX6_part_62 rfl (lv_at hl 0 rfl) ?_
      refine va_get (D := (dC, dI)) (ci := 5) (v := .ref a5) (C := RX6) (T := TX6) (N := 28) hx hb hts in_X6 hown hK hP 0 rfl rfl 6 (by decide) w_2 (fun _ h9 => h9) rfl dX6_part_63 ?_
      refine lv_iload_n hx hb dX6_part_66 rfl (lv_at hl 1 rfl) ?_
      refine zv_iald hx hb hK hP 5 0 rfl rfl (by omega) dX6_part_67 ?_
      rw [← hQQ]
      exact zr_iret hx hb hr hlocks (congrArg zI (show mr k = q_part (pa 0) ms ml mr mt nw (fun j => nw (9 + j)) k w from by unfold q_part; (repeat' split) <;> first | rfl | omega)) dX6_part_68
    · refine zv_tableIn (k := 3) (tgt := 69) hx hb (by omega) c_11 (by omega) dX6_part_11 rfl (by decide) ?_
      refine lv_aload_n hx hb dX6_part_69 rfl (lv_at hl 0 rfl) ?_
      refine va_get (D := (dC, dI)) (ci := 5) (v := .ref a6) (C := RX6) (T := TX6) (N := 28) hx hb hts in_X6 hown hK hP 0 rfl rfl 7 (by decide) w_3 (fun _ h9 => h9) rfl dX6_part_70 ?_
      refine lv_iload_n hx hb dX6_part_73 rfl (lv_at hl 1 rfl) ?_
      refine zv_iald hx hb hK hP 6 0 rfl rfl (by omega) dX6_part_74 ?_
      rw [← hQQ]
      exact zr_iret hx hb hr hlocks (congrArg zI (show mt k = q_part (pa 0) ms ml mr mt nw (fun j => nw (9 + j)) k w from by unfold q_part; (repeat' split) <;> first | rfl | omega)) dX6_part_75
    · refine zv_tableIn (k := 4) (tgt := 76) hx hb (by omega) c_11 (by omega) dX6_part_11 rfl (by decide) ?_
      refine lv_aload_n hx hb dX6_part_76 rfl (lv_at hl 0 rfl) ?_
      refine va_get (D := (dC, dI)) (ci := 5) (v := .ref a7) (C := RX6) (T := TX6) (N := 28) hx hb hts in_X6 hown hK hP 0 rfl rfl 13 (by decide) w_4 (fun _ h9 => h9) rfl dX6_part_77 ?_
      refine lv_iload_n hx hb dX6_part_80 rfl (lv_at hl 1 rfl) ?_
      refine zv_iald hx hb hK hP 7 0 rfl rfl (by omega) dX6_part_81 ?_
      rw [← hQQ]
      exact zr_iret hx hb hr hlocks (congrArg zI (show nw k = q_part (pa 0) ms ml mr mt nw (fun j => nw (9 + j)) k w from by unfold q_part; (repeat' split) <;> first | rfl | omega)) dX6_part_82
    · refine zv_tableIn (k := 5) (tgt := 83) hx hb (by omega) c_11 (by omega) dX6_part_11 rfl (by decide) ?_
      refine lv_aload_n hx hb dX6_part_83 rfl (lv_at hl 0 rfl) ?_
      refine va_get (D := (dC, dI)) (ci := 5) (v := .ref a7) (C := RX6) (T := TX6) (N := 28) hx hb hts in_X6 hown hK hP 0 rfl rfl 13 (by decide) w_4 (fun _ h9 => h9) rfl dX6_part_84 ?_
      refine zv_bipush hx hb dX6_part_87 (by decide +kernel) ?_
      refine lv_iload_n hx hb dX6_part_89 rfl (lv_at hl 1 rfl) ?_
      refine zv_iadd hx hb dX6_part_90 ?_
      refine zv_iald hx hb hK hP 7 0 rfl rfl (by omega) dX6_part_91 ?_
      rw [← hQQ]
      exact zr_iret hx hb hr hlocks (congrArg zI (show nw (9 + k) = q_part (pa 0) ms ml mr mt nw (fun j => nw (9 + j)) k w from by unfold q_part; (repeat' split) <;> first | rfl | omega)) dX6_part_92
    · refine zv_tableOut (tgt := 93) hx hb (by omega) c_11 dX6_part_11 (by decide) ?_
      refine zv_iconst hx hb dX6_part_93 ?_
      rw [← hQQ]
      exact zr_iret hx hb hr hlocks (congrArg zI (show (-1) = q_part (pa 0) ms ml mr mt nw (fun j => nw (9 + j)) k w from by unfold q_part; (repeat' split) <;> first | rfl | omega)) dX6_part_94
  · refine zv_iconst hx hb dX6_part_8 ?_
    rw [← hQQ]
    exact zr_iret hx hb hr hlocks (congrArg zI (show (-1) = q_part (pa 0) ms ml mr mt nw (fun j => nw (9 + j)) k w from by unfold q_part; (repeat' split) <;> first | rfl | omega)) dX6_part_9
set_option maxHeartbeats 4000000 in
set_option maxRecDepth 100000 in
theorem c_X6_go (l : Launch) (dC : Nat → ClassId) (dI : Nat → Nat → Nat) (cI cB cZ : ClassId) (a0 : Nat) (a1 : Nat) (a2 : Nat) (a3 : Nat) (a4 : Nat) (a5 : Nat) (a6 : Nat) (a7 : Nat) (a8 : Nat) (a9 : Nat) (a10 : Nat) (a11 : Nat) (a12 : Nat) (a13 : Nat) (a14 : Nat) (a15 : Nat) (a16 : Nat) (a17 : Nat) (mtr : Int64) (tx : Int → Int) (ty : Int) (pa : Int → Int) (ms : Int → Int) (ml : Int → Int) (mr : Int → Int) (mt : Int → Int) (mat : Int) (mst : Int) (mso : Int) (mva : Int) (mfa : Int) (nw : Int → Int) (ik : Int → Int) (sd : Int → Int) (mlo : Int) (ra : Int → Int) (rm : Int) (bg : Int → Int) (to : Int → Int) (tm : Int) (cd : Int → Int) (fi : Int → Int) (tsz : Int → Int) (tcm : Int → Int) (tmy : Int) (mg : Int → Int) (sz : Int) (hh : hOk (pa 0) ms ml mr mt) (hn1 : 1 ≤ pa 0) (hsd : sOk (pa 0) ms mt sd) (hsz : sz = 0 ∨ sz = 1) (hlo : -9 ≤ mlo ∧ mlo ≤ 8) : MetW (S := (Int → Int)) l yX6_go wsX6_go ({ frames := 0, cells := 0, slots := 0, locals := 0 }) (dC, dI) vwCl (zT cI cB cZ) zN [(a0, .inr (5, [.long mtr, .ref a1, .int (zI ty), .ref a2, .ref a3, .ref a4, .ref a5, .ref a6, .int (zI mat), .int (zI mst), .int (zI mso), .int (zI mva), .int (zI mfa), .ref a7, .ref a8, .ref a9, .int (zI mlo), .ref a10, .int (zI rm), .ref a11, .ref a12, .int (zI tm), .ref a13, .ref a14, .ref a15, .ref a16, .int (zI tmy), .ref a17])), (a1, .inl (cB, 200, .inl (zA tx))), (a2, .inl (cI, 2, .inl (zA pa))), (a3, .inl (cI, 18, .inl (zA ms))), (a4, .inl (cI, 18, .inl (zA ml))), (a5, .inl (cI, 18, .inl (zA mr))), (a6, .inl (cI, 18, .inl (zA mt))), (a7, .inl (cI, 1143, .inl (zA nw))), (a8, .inl (cZ, 2, .inl (zA ik))), (a9, .inl (cI, 9, .inl (zA sd))), (a10, .inl (cI, 9, .inl (zA ra))), (a11, .inl (cI, 9, .inl (zA bg))), (a12, .inl (cI, 4, .inl (zA to))), (a13, .inl (cI, 200, .inl (zA cd))), (a14, .inl (cI, 9, .inl (zA fi))), (a15, .inl (cI, 9, .inl (zA tsz))), (a16, .inl (cI, 9, .inl (zA tcm))), (a17, .inl (cI, 10, .inl (zA mg)))] [.ref a0, .int (zI sz)] (fun u => some (.int (zI ((goS ms ml mr mt mlo sz 9 sd (pa 0 - 1)).2)))) (fun u => [(a0, .inr (5, [.long mtr, .ref a1, .int (zI ty), .ref a2, .ref a3, .ref a4, .ref a5, .ref a6, .int (zI mat), .int (zI mst), .int (zI mso), .int (zI mva), .int (zI mfa), .ref a7, .ref a8, .ref a9, .int (zI mlo), .ref a10, .int (zI rm), .ref a11, .ref a12, .int (zI tm), .ref a13, .ref a14, .ref a15, .ref a16, .int (zI tmy), .ref a17])), (a1, .inl (cB, 200, .inl (zA tx))), (a2, .inl (cI, 2, .inl (zA pa))), (a3, .inl (cI, 18, .inl (zA ms))), (a4, .inl (cI, 18, .inl (zA ml))), (a5, .inl (cI, 18, .inl (zA mr))), (a6, .inl (cI, 18, .inl (zA mt))), (a7, .inl (cI, 1143, .inl (zA nw))), (a8, .inl (cZ, 2, .inl (zA ik))), (a9, .inl (cI, 9, .inl (zA u))), (a10, .inl (cI, 9, .inl (zA ra))), (a11, .inl (cI, 9, .inl (zA bg))), (a12, .inl (cI, 4, .inl (zA to))), (a13, .inl (cI, 200, .inl (zA cd))), (a14, .inl (cI, 9, .inl (zA fi))), (a15, .inl (cI, 9, .inl (zA tsz))), (a16, .inl (cI, 9, .inl (zA tcm))), (a17, .inl (cI, 10, .inl (zA mg)))]) (fun u => (u = (goS ms ml mr mt mlo sz 9 sd (pa 0 - 1)).1)) := by
  refine MetW.intro (cc := cX6_go) (maxL := 5) (ret := (some .int)) (by decide) rfl (Nat.le_of_ble_eq_true rfl) ?_
  intro p e s m args below meth c A hx hb hr hlocks hml hts hown hP hK hD hS hA hE ls hl
  have hown : s.vm.findClass RX6 = some m.cls := hown
  have hl : lv_has ls 5 [(0, .ref a0), (1, .int (zI sz))] := hl
  generalize hRM : ({ frames := 0, cells := 0, slots := 0, locals := 0 } : Room) = RM
  generalize hQQ : MQ below (QW (S := (Int → Int)) (dC, dI) vwCl A (fun u => some (.int (zI ((goS ms ml mr mt mlo sz 9 sd (pa 0 - 1)).2)))) (fun u => [(a0, .inr (5, [.long mtr, .ref a1, .int (zI ty), .ref a2, .ref a3, .ref a4, .ref a5, .ref a6, .int (zI mat), .int (zI mst), .int (zI mso), .int (zI mva), .int (zI mfa), .ref a7, .ref a8, .ref a9, .int (zI mlo), .ref a10, .int (zI rm), .ref a11, .ref a12, .int (zI tm), .ref a13, .ref a14, .ref a15, .ref a16, .int (zI tmy), .ref a17])), (a1, .inl (cB, 200, .inl (zA tx))), (a2, .inl (cI, 2, .inl (zA pa))), (a3, .inl (cI, 18, .inl (zA ms))), (a4, .inl (cI, 18, .inl (zA ml))), (a5, .inl (cI, 18, .inl (zA mr))), (a6, .inl (cI, 18, .inl (zA mt))), (a7, .inl (cI, 1143, .inl (zA nw))), (a8, .inl (cZ, 2, .inl (zA ik))), (a9, .inl (cI, 9, .inl (zA u))), (a10, .inl (cI, 9, .inl (zA ra))), (a11, .inl (cI, 9, .inl (zA bg))), (a12, .inl (cI, 4, .inl (zA to))), (a13, .inl (cI, 200, .inl (zA cd))), (a14, .inl (cI, 9, .inl (zA fi))), (a15, .inl (cI, 9, .inl (zA tsz))), (a16, .inl (cI, 9, .inl (zA tcm))), (a17, .inl (cI, 10, .inl (zA mg)))]) (fun u => (u = (goS ms ml mr mt mlo sz 9 sd (pa 0 - 1)).1))) args s 0 0 A = QQ
  have in_X6 : ∀ w ∈ wsX60, w ∈ wsX6_go := by decide +kernel
  have w_0 := hts (.fieldLink RX6 17 "WallMarblesModel" "sorts" "[I") (by decide +kernel)
  have w_1 := hts (.fieldLink RX6 116 "WallMarblesModel" "lodged" "I") (by decide +kernel)
  have w_2 := hts (.fieldLink RX6 26 "WallMarblesModel" "times" "[I") (by decide +kernel)
  have w_3 := hts (.fieldLink RX6 36 "WallMarblesModel" "stands" "[I") (by decide +kernel)
  have w_4 := hts (.fieldLink RX6 20 "WallMarblesModel" "lefts" "[I") (by decide +kernel)
  have w_5 := hts (.fieldLink RX6 23 "WallMarblesModel" "rights" "[I") (by decide +kernel)
  have w_6 := hts (.fieldLink RX6 13 "WallMarblesModel" "parts" "[I") (by decide +kernel)
  have hn := hh.1
  obtain ⟨RR, hRR⟩ : ∃ z, z = goS ms ml mr mt mlo sz 9 sd (pa 0 - 1) := ⟨_, rfl⟩
  have cut9 : ∀ (nM : Nat) (su : Int → Int) (k : Int),  k.toNat < nM → (0 ≤ k ∧ k < pa 0) → (sOk (pa 0) ms mt su) → (RR = goS ms ml mr mt mlo sz 9 su k) → ∀ (H : Heap) (locs : List Loc), va_P (dC, dI) vwCl [(a0, .inr (5, [.long mtr, .ref a1, .int (zI ty), .ref a2, .ref a3, .ref a4, .ref a5, .ref a6, .int (zI mat), .int (zI mst), .int (zI mso), .int (zI mva), .int (zI mfa), .ref a7, .ref a8, .ref a9, .int (zI mlo), .ref a10, .int (zI rm), .ref a11, .ref a12, .int (zI tm), .ref a13, .ref a14, .ref a15, .ref a16, .int (zI tmy), .ref a17])), (a1, .inl (cB, 200, .inl (zA tx))), (a2, .inl (cI, 2, .inl (zA pa))), (a3, .inl (cI, 18, .inl (zA ms))), (a4, .inl (cI, 18, .inl (zA ml))), (a5, .inl (cI, 18, .inl (zA mr))), (a6, .inl (cI, 18, .inl (zA mt))), (a7, .inl (cI, 1143, .inl (zA nw))), (a8, .inl (cZ, 2, .inl (zA ik))), (a9, .inl (cI, 9, .inl (zA su))), (a10, .inl (cI, 9, .inl (zA ra))), (a11, .inl (cI, 9, .inl (zA bg))), (a12, .inl (cI, 4, .inl (zA to))), (a13, .inl (cI, 200, .inl (zA cd))), (a14, .inl (cI, 9, .inl (zA fi))), (a15, .inl (cI, 9, .inl (zA tsz))), (a16, .inl (cI, 9, .inl (zA tcm))), (a17, .inl (cI, 10, .inl (zA mg)))] H → va_D A [(a0, .inr (5, [.long mtr, .ref a1, .int (zI ty), .ref a2, .ref a3, .ref a4, .ref a5, .ref a6, .int (zI mat), .int (zI mst), .int (zI mso), .int (zI mva), .int (zI mfa), .ref a7, .ref a8, .ref a9, .int (zI mlo), .ref a10, .int (zI rm), .ref a11, .ref a12, .int (zI tm), .ref a13, .ref a14, .ref a15, .ref a16, .int (zI tmy), .ref a17])), (a1, .inl (cB, 200, .inl (zA tx))), (a2, .inl (cI, 2, .inl (zA pa))), (a3, .inl (cI, 18, .inl (zA ms))), (a4, .inl (cI, 18, .inl (zA ml))), (a5, .inl (cI, 18, .inl (zA mr))), (a6, .inl (cI, 18, .inl (zA mt))), (a7, .inl (cI, 1143, .inl (zA nw))), (a8, .inl (cZ, 2, .inl (zA ik))), (a9, .inl (cI, 9, .inl (zA su))), (a10, .inl (cI, 9, .inl (zA ra))), (a11, .inl (cI, 9, .inl (zA bg))), (a12, .inl (cI, 4, .inl (zA to))), (a13, .inl (cI, 200, .inl (zA cd))), (a14, .inl (cI, 9, .inl (zA fi))), (a15, .inl (cI, 9, .inl (zA tsz))), (a16, .inl (cI, 9, .inl (zA tcm))), (a17, .inl (cI, 10, .inl (zA mg)))] → va_S A s.heap H locs → ∀ ls : Array Slot, lv_has ls 5 [(0, .ref a0), (1, .int (zI sz)), (2, .int (zI k))] → W p l e RM s m args below meth c H locs 0 0 QQ (F0 m 9 ls []) := by
    intro nM
    induction nM with
    | zero => intro su k hmu; exact absurd hmu (Nat.not_lt_zero _)
    | succ nM ih9 =>
      intro su k hmu q1 q3 q4 H locs hP hD hS ls hl
      have z0 := hh.2 k (by omega) (by omega)
      obtain ⟨z1, z2, z3, z4, z5, z6, z7, z8⟩ := z0
      have z9 := sOk_lt hh q3 (k := k) (by omega) (by omega)
      have z10 := q3 k (by omega) (by omega)
      have q5 := q4
      rw [goS_9 hh (by omega) (by omega)] at q5
      refine lv_aload_n hx hb dX6_go_9 rfl (lv_at hl 0 rfl) ?_
      refine va_get (D := (dC, dI)) (ci := 5) (v := .ref a3) (C := RX6) (T := TX6) (N := 28) hx hb hts in_X6 hown hK hP 0 rfl rfl 4 (by decide) w_0 (fun _ h9 => h9) rfl dX6_go_10 ?_
      refine lv_iload_n hx hb dX6_go_13 rfl (lv_at hl 2 rfl) ?_
      refine zv_iald hx hb hK hP 3 0 rfl rfl (by omega) dX6_go_14 ?_
      refine zv_if_eq (tgt := 170) hx hb (by omega) dX6_go_15 (by decide) (fun c_15 => ?_) (fun c_15 => ?_)
      · refine lv_iload_n hx hb dX6_go_170 rfl (lv_at hl 2 rfl) ?_
        refine lv_aload_n hx hb dX6_go_171 rfl (lv_at hl 0 rfl) ?_
        refine va_get (D := (dC, dI)) (ci := 5) (v := .int (zI mlo)) (C := RX6) (T := TX6) (N := 28) hx hb hts in_X6 hown hK hP 0 rfl rfl 16 (by decide) w_1 (fun _ h9 => h9) rfl dX6_go_172 ?_
        refine zv_icmp_ne (tgt := 183) hx hb (by omega) (by omega) dX6_go_175 (by decide) (fun c_175 => ?_) (fun c_175 => ?_)
        · refine lv_iload_n hx hb dX6_go_183 rfl (lv_at hl 2 rfl) ?_
          rw [← hQQ]
          exact zw_iret hx hb hr hlocks (su) (congrArg (fun z => some (Value.int (zI z))) (show (goS ms ml mr mt mlo sz 9 sd (pa 0 - 1)).2 = k from by first | (rw [← hRR, q5]; (repeat' split) <;> first | rfl | omega | (exfalso; omega)))) (by rw [← hRR, q5]; (repeat' split) <;> first | rfl | (exfalso; omega)) hP hS dX6_go_184
        · refine zv_bipush hx hb dX6_go_178 (by decide +kernel) ?_
          refine lv_goto (tgt := 184) hx hb dX6_go_180 (by decide) ?_
          rw [← hQQ]
          exact zw_iret hx hb hr hlocks (su) (congrArg (fun z => some (Value.int (zI z))) (show (goS ms ml mr mt mlo sz 9 sd (pa 0 - 1)).2 = (-9) from by first | (rw [← hRR, q5]; (repeat' split) <;> first | rfl | omega | (exfalso; omega)))) (by rw [← hRR, q5]; (repeat' split) <;> first | rfl | (exfalso; omega)) hP hS dX6_go_184
      · refine lv_iload_n hx hb dX6_go_18 rfl (lv_at hl 2 rfl) ?_
        refine lv_aload_n hx hb dX6_go_19 rfl (lv_at hl 0 rfl) ?_
        refine va_get (D := (dC, dI)) (ci := 5) (v := .int (zI mlo)) (C := RX6) (T := TX6) (N := 28) hx hb hts in_X6 hown hK hP 0 rfl rfl 16 (by decide) w_1 (fun _ h9 => h9) rfl dX6_go_20 ?_
        refine zv_icmp_ne (tgt := 29) hx hb (by omega) (by omega) dX6_go_23 (by decide) (fun c_23 => ?_) (fun c_23 => ?_)
        · rw [if_neg c_23, if_neg c_15] at q5
          refine lv_aload_n hx hb dX6_go_29 rfl (lv_at hl 0 rfl) ?_
          refine va_get (D := (dC, dI)) (ci := 5) (v := .ref a6) (C := RX6) (T := TX6) (N := 28) hx hb hts in_X6 hown hK hP 0 rfl rfl 7 (by decide) w_2 (fun _ h9 => h9) rfl dX6_go_30 ?_
          refine lv_iload_n hx hb dX6_go_33 rfl (lv_at hl 2 rfl) ?_
          refine zv_iald hx hb hK hP 6 0 rfl rfl (by omega) dX6_go_34 ?_
          refine lv_istore_n (lv' := [(3, .int (zI (mt k))), (0, .ref a0), (1, .int (zI sz)), (2, .int (zI k))]) hx hb dX6_go_35 rfl hl (by decide) rfl (fun ls hl => ?_)
          refine lv_aload_n hx hb dX6_go_36 rfl (lv_at hl 1 rfl) ?_
          refine va_get (D := (dC, dI)) (ci := 5) (v := .ref a3) (C := RX6) (T := TX6) (N := 28) hx hb hts in_X6 hown hK hP 0 rfl rfl 4 (by decide) w_0 (fun _ h9 => h9) rfl dX6_go_37 ?_
          refine lv_iload_n hx hb dX6_go_40 rfl (lv_at hl 3 rfl) ?_
          refine zv_iald hx hb hK hP 3 0 rfl rfl (by omega) dX6_go_41 ?_
          refine zv_iconst hx hb dX6_go_42 ?_
          refine zv_icmp_ne (tgt := 69) hx hb (by omega) (by omega) dX6_go_43 (by decide) (fun c_43 => ?_) (fun c_43 => ?_)
          · refine lv_aload_n hx hb dX6_go_69 rfl (lv_at hl 1 rfl) ?_
            refine va_get (D := (dC, dI)) (ci := 5) (v := .ref a3) (C := RX6) (T := TX6) (N := 28) hx hb hts in_X6 hown hK hP 0 rfl rfl 4 (by decide) w_0 (fun _ h9 => h9) rfl dX6_go_70 ?_
            refine lv_iload_n hx hb dX6_go_73 rfl (lv_at hl 3 rfl) ?_
            refine zv_iald hx hb hK hP 3 0 rfl rfl (by omega) dX6_go_74 ?_
            refine zv_iconst hx hb dX6_go_75 ?_
            refine zv_icmp_ne (tgt := 130) hx hb (by omega) (by omega) dX6_go_76 (by decide) (fun c_76 => ?_) (fun c_76 => ?_)
            · rw [if_neg c_76, if_neg (show ¬ ms k = 2 by omega)] at q5
              have y2 := z2 (by omega)
              have y4 := z5 (by omega)
              have y5 := (z10.2.1 (by omega)).2.1 (by omega)
              refine lv_aload_n hx hb dX6_go_130 rfl (lv_at hl 1 rfl) ?_
              refine va_get (D := (dC, dI)) (ci := 5) (v := .ref a9) (C := RX6) (T := TX6) (N := 28) hx hb hts in_X6 hown hK hP 0 rfl rfl 15 (by decide) w_3 (fun _ h9 => h9) rfl dX6_go_131 ?_
              refine lv_iload_n hx hb dX6_go_134 rfl (lv_at hl 3 rfl) ?_
              refine lv_dup2_11 hx hb dX6_go_135 rfl rfl ?_
              refine zv_iald hx hb hK hP 9 0 rfl rfl (by omega) dX6_go_136 ?_
              refine zv_iconst hx hb dX6_go_137 ?_
              refine zv_iadd hx hb dX6_go_138 ?_
              refine zv_iast (ws' := [(a0, .inr (5, [.long mtr, .ref a1, .int (zI ty), .ref a2, .ref a3, .ref a4, .ref a5, .ref a6, .int (zI mat), .int (zI mst), .int (zI mso), .int (zI mva), .int (zI mfa), .ref a7, .ref a8, .ref a9, .int (zI mlo), .ref a10, .int (zI rm), .ref a11, .ref a12, .int (zI tm), .ref a13, .ref a14, .ref a15, .ref a16, .int (zI tmy), .ref a17])), (a1, .inl (cB, 200, .inl (zA tx))), (a2, .inl (cI, 2, .inl (zA pa))), (a3, .inl (cI, 18, .inl (zA ms))), (a4, .inl (cI, 18, .inl (zA ml))), (a5, .inl (cI, 18, .inl (zA mr))), (a6, .inl (cI, 18, .inl (zA mt))), (a7, .inl (cI, 1143, .inl (zA nw))), (a8, .inl (cZ, 2, .inl (zA ik))), (a9, .inl (cI, 9, .inl (zA (zu su k ((su k) + 1))))), (a10, .inl (cI, 9, .inl (zA ra))), (a11, .inl (cI, 9, .inl (zA bg))), (a12, .inl (cI, 4, .inl (zA to))), (a13, .inl (cI, 200, .inl (zA cd))), (a14, .inl (cI, 9, .inl (zA fi))), (a15, .inl (cI, 9, .inl (zA tsz))), (a16, .inl (cI, 9, .inl (zA tcm))), (a17, .inl (cI, 10, .inl (zA mg)))]) hx hb hK hP hD hS 9 0 rfl rfl (by omega) rfl dX6_go_139 (fun H locs hP hD hS => ?_)
              refine lv_aload_n hx hb dX6_go_140 rfl (lv_at hl 1 rfl) ?_
              refine va_get (D := (dC, dI)) (ci := 5) (v := .ref a9) (C := RX6) (T := TX6) (N := 28) hx hb hts in_X6 hown hK hP 0 rfl rfl 15 (by decide) w_3 (fun _ h9 => h9) rfl dX6_go_141 ?_
              refine lv_iload_n hx hb dX6_go_144 rfl (lv_at hl 3 rfl) ?_
              refine zv_iald hx hb hK hP 9 0 rfl rfl (by omega) dX6_go_145 ?_
              refine lv_iload_n hx hb dX6_go_146 rfl (lv_at hl 0 rfl) ?_
              rw [show ((zu su k ((su k) + 1)) k) = su k + 1 from zu_s]
              refine zv_icmp_ge (tgt := 153) hx hb (by omega) (by omega) dX6_go_147 (by decide) (fun c_147 => ?_) (fun c_147 => ?_)
              · refine lv_aload_n hx hb dX6_go_153 rfl (lv_at hl 1 rfl) ?_
                refine va_get (D := (dC, dI)) (ci := 5) (v := .ref a9) (C := RX6) (T := TX6) (N := 28) hx hb hts in_X6 hown hK hP 0 rfl rfl 15 (by decide) w_3 (fun _ h9 => h9) rfl dX6_go_154 ?_
                refine lv_iload_n hx hb dX6_go_157 rfl (lv_at hl 3 rfl) ?_
                refine zv_iconst hx hb dX6_go_158 ?_
                refine zv_iast (ws' := [(a0, .inr (5, [.long mtr, .ref a1, .int (zI ty), .ref a2, .ref a3, .ref a4, .ref a5, .ref a6, .int (zI mat), .int (zI mst), .int (zI mso), .int (zI mva), .int (zI mfa), .ref a7, .ref a8, .ref a9, .int (zI mlo), .ref a10, .int (zI rm), .ref a11, .ref a12, .int (zI tm), .ref a13, .ref a14, .ref a15, .ref a16, .int (zI tmy), .ref a17])), (a1, .inl (cB, 200, .inl (zA tx))), (a2, .inl (cI, 2, .inl (zA pa))), (a3, .inl (cI, 18, .inl (zA ms))), (a4, .inl (cI, 18, .inl (zA ml))), (a5, .inl (cI, 18, .inl (zA mr))), (a6, .inl (cI, 18, .inl (zA mt))), (a7, .inl (cI, 1143, .inl (zA nw))), (a8, .inl (cZ, 2, .inl (zA ik))), (a9, .inl (cI, 9, .inl (zA (zu (zu su k ((su k) + 1)) k 0)))), (a10, .inl (cI, 9, .inl (zA ra))), (a11, .inl (cI, 9, .inl (zA bg))), (a12, .inl (cI, 4, .inl (zA to))), (a13, .inl (cI, 200, .inl (zA cd))), (a14, .inl (cI, 9, .inl (zA fi))), (a15, .inl (cI, 9, .inl (zA tsz))), (a16, .inl (cI, 9, .inl (zA tcm))), (a17, .inl (cI, 10, .inl (zA mg)))]) hx hb hK hP hD hS 9 0 rfl rfl (by omega) rfl dX6_go_159 (fun H locs hP hD hS => ?_)
                refine lv_aload_n hx hb dX6_go_160 rfl (lv_at hl 1 rfl) ?_
                refine va_get (D := (dC, dI)) (ci := 5) (v := .ref a4) (C := RX6) (T := TX6) (N := 28) hx hb hts in_X6 hown hK hP 0 rfl rfl 5 (by decide) w_4 (fun _ h9 => h9) rfl dX6_go_161 ?_
                refine lv_iload_n hx hb dX6_go_164 rfl (lv_at hl 3 rfl) ?_
                refine zv_iald hx hb hK hP 4 0 rfl rfl (by omega) dX6_go_165 ?_
                refine lv_istore_n (lv' := [(2, .int (zI (ml k))), (3, .int (zI (mt k))), (0, .ref a0), (1, .int (zI sz))]) hx hb dX6_go_166 rfl hl (by decide) rfl (fun ls hl => ?_)
                refine lv_goto (tgt := 9) hx hb dX6_go_167 (by decide) ?_
                exact ih9 (zu (zu su k ((su k) + 1)) k 0) (ml k) (by omega) (by omega) (by first | exact q3 | (rw [ym]; exact sOk_up hh q3 (k := k) (by omega) (by omega) (by split <;> omega) (by omega) (by intro _; split <;> omega) (by intro z; omega)) | (rw [zu_zu]; exact sOk_up hh q3 (k := k) (by omega) (by omega) (by omega) (by omega) (by omega) (by omega))) (by first | (rw [q5, ym]; (repeat' split) <;> first | rfl | (exfalso; omega)) | (rw [q5, zu_zu]; (repeat' split) <;> first | rfl | (exfalso; omega)) | (rw [q5]; (repeat' split) <;> first | rfl | (exfalso; omega))) _ _ hP hD hS _ (lv_sub hl [2, 3, 0] rfl)
              · refine zv_bipush hx hb dX6_go_150 (by decide +kernel) ?_
                rw [← hQQ]
                exact zw_iret hx hb hr hlocks ((zu su k ((su k) + 1))) (congrArg (fun z => some (Value.int (zI z))) (show (goS ms ml mr mt mlo sz 9 sd (pa 0 - 1)).2 = (-9) from by first | (rw [← hRR, q5]; (repeat' split) <;> first | rfl | omega | (exfalso; omega)))) (by rw [← hRR, q5]; (repeat' split) <;> first | rfl | (exfalso; omega)) hP hS dX6_go_152
            · rw [if_pos c_76] at q5
              have y2 := z2 (by omega)
              have y3 := z3 (by omega)
              have y4 := z4 c_76
              have y5 := (z10.2.1 (by omega)).1 c_76
              have ym : (su k + 1) % (2 * mt k) = if su k + 1 < 2 * mt k then su k + 1 else 0 := by split; (rw [Int.emod_eq_of_lt (by omega) (by omega)]); (rw [show su k + 1 = 2 * mt k by omega, Int.emod_self])
              refine lv_aload_n hx hb dX6_go_79 rfl (lv_at hl 1 rfl) ?_
              refine va_get (D := (dC, dI)) (ci := 5) (v := .ref a9) (C := RX6) (T := TX6) (N := 28) hx hb hts in_X6 hown hK hP 0 rfl rfl 15 (by decide) w_3 (fun _ h9 => h9) rfl dX6_go_80 ?_
              refine lv_iload_n hx hb dX6_go_83 rfl (lv_at hl 3 rfl) ?_
              refine zv_iald hx hb hK hP 9 0 rfl rfl (by omega) dX6_go_84 ?_
              refine lv_iload_n hx hb dX6_go_85 rfl (lv_at hl 0 rfl) ?_
              refine zv_icmp_ge (tgt := 98) hx hb (by omega) (by omega) dX6_go_86 (by decide) (fun c_86 => ?_) (fun c_86 => ?_)
              · refine lv_aload_n hx hb dX6_go_98 rfl (lv_at hl 1 rfl) ?_
                refine va_get (D := (dC, dI)) (ci := 5) (v := .ref a5) (C := RX6) (T := TX6) (N := 28) hx hb hts in_X6 hown hK hP 0 rfl rfl 6 (by decide) w_5 (fun _ h9 => h9) rfl dX6_go_99 ?_
                refine lv_iload_n hx hb dX6_go_102 rfl (lv_at hl 3 rfl) ?_
                refine zv_iald hx hb hK hP 5 0 rfl rfl (by omega) dX6_go_103 ?_
                refine lv_istore (lv' := [(4, .int (zI (mr k))), (3, .int (zI (mt k))), (0, .ref a0), (1, .int (zI sz)), (2, .int (zI k))]) hx hb dX6_go_104 hl (by decide) rfl (fun ls hl => ?_)
                refine lv_aload_n hx hb dX6_go_106 rfl (lv_at hl 2 rfl) ?_
                refine va_get (D := (dC, dI)) (ci := 5) (v := .ref a9) (C := RX6) (T := TX6) (N := 28) hx hb hts in_X6 hown hK hP 0 rfl rfl 15 (by decide) w_3 (fun _ h9 => h9) rfl dX6_go_107 ?_
                refine lv_iload_n hx hb dX6_go_110 rfl (lv_at hl 4 rfl) ?_
                refine lv_aload_n hx hb dX6_go_111 rfl (lv_at hl 2 rfl) ?_
                refine va_get (D := (dC, dI)) (ci := 5) (v := .ref a9) (C := RX6) (T := TX6) (N := 28) hx hb hts in_X6 hown hK hP 0 rfl rfl 15 (by decide) w_3 (fun _ h9 => h9) rfl dX6_go_112 ?_
                refine lv_iload_n hx hb dX6_go_115 rfl (lv_at hl 4 rfl) ?_
                refine zv_iald hx hb hK hP 9 0 rfl rfl (by omega) dX6_go_116 ?_
                refine zv_iconst hx hb dX6_go_117 ?_
                refine zv_iadd hx hb dX6_go_118 ?_
                refine zv_iconst hx hb dX6_go_119 ?_
                refine lv_iload_n hx hb dX6_go_120 rfl (lv_at hl 1 rfl) ?_
                refine zv_imul hx hb dX6_go_121 ?_
                refine zv_irem hx hb (by omega) dX6_go_122 ?_
                refine zv_iast (ws' := [(a0, .inr (5, [.long mtr, .ref a1, .int (zI ty), .ref a2, .ref a3, .ref a4, .ref a5, .ref a6, .int (zI mat), .int (zI mst), .int (zI mso), .int (zI mva), .int (zI mfa), .ref a7, .ref a8, .ref a9, .int (zI mlo), .ref a10, .int (zI rm), .ref a11, .ref a12, .int (zI tm), .ref a13, .ref a14, .ref a15, .ref a16, .int (zI tmy), .ref a17])), (a1, .inl (cB, 200, .inl (zA tx))), (a2, .inl (cI, 2, .inl (zA pa))), (a3, .inl (cI, 18, .inl (zA ms))), (a4, .inl (cI, 18, .inl (zA ml))), (a5, .inl (cI, 18, .inl (zA mr))), (a6, .inl (cI, 18, .inl (zA mt))), (a7, .inl (cI, 1143, .inl (zA nw))), (a8, .inl (cZ, 2, .inl (zA ik))), (a9, .inl (cI, 9, .inl (zA (zu su k (((su k) + 1) % (2 * (mt k))))))), (a10, .inl (cI, 9, .inl (zA ra))), (a11, .inl (cI, 9, .inl (zA bg))), (a12, .inl (cI, 4, .inl (zA to))), (a13, .inl (cI, 200, .inl (zA cd))), (a14, .inl (cI, 9, .inl (zA fi))), (a15, .inl (cI, 9, .inl (zA tsz))), (a16, .inl (cI, 9, .inl (zA tcm))), (a17, .inl (cI, 10, .inl (zA mg)))]) hx hb hK hP hD hS 9 0 rfl rfl (by omega) rfl dX6_go_123 (fun H locs hP hD hS => ?_)
                refine lv_iload hx hb dX6_go_124 (lv_at hl 0 rfl) ?_
                refine lv_istore_n (lv' := [(2, .int (zI (mr k))), (4, .int (zI (mr k))), (3, .int (zI (mt k))), (0, .ref a0), (1, .int (zI sz))]) hx hb dX6_go_126 rfl hl (by decide) rfl (fun ls hl => ?_)
                refine lv_goto (tgt := 167) hx hb dX6_go_127 (by decide) ?_
                refine lv_goto (tgt := 9) hx hb dX6_go_167 (by decide) ?_
                exact ih9 (zu su k (((su k) + 1) % (2 * (mt k)))) (mr k) (by omega) (by omega) (by first | exact q3 | (rw [ym]; exact sOk_up hh q3 (k := k) (by omega) (by omega) (by split <;> omega) (by omega) (by intro _; split <;> omega) (by intro z; omega)) | (rw [zu_zu]; exact sOk_up hh q3 (k := k) (by omega) (by omega) (by omega) (by omega) (by omega) (by omega))) (by first | (rw [q5, ym]; (repeat' split) <;> first | rfl | (exfalso; omega)) | (rw [q5, zu_zu]; (repeat' split) <;> first | rfl | (exfalso; omega)) | (rw [q5]; (repeat' split) <;> first | rfl | (exfalso; omega))) _ _ hP hD hS _ (lv_sub hl [3, 4, 0] rfl)
              · refine lv_aload_n hx hb dX6_go_89 rfl (lv_at hl 1 rfl) ?_
                refine va_get (D := (dC, dI)) (ci := 5) (v := .ref a4) (C := RX6) (T := TX6) (N := 28) hx hb hts in_X6 hown hK hP 0 rfl rfl 5 (by decide) w_4 (fun _ h9 => h9) rfl dX6_go_90 ?_
                refine lv_iload_n hx hb dX6_go_93 rfl (lv_at hl 3 rfl) ?_
                refine zv_iald hx hb hK hP 4 0 rfl rfl (by omega) dX6_go_94 ?_
                refine lv_goto (tgt := 104) hx hb dX6_go_95 (by decide) ?_
                refine lv_istore (lv' := [(4, .int (zI (ml k))), (3, .int (zI (mt k))), (0, .ref a0), (1, .int (zI sz)), (2, .int (zI k))]) hx hb dX6_go_104 hl (by decide) rfl (fun ls hl => ?_)
                refine lv_aload_n hx hb dX6_go_106 rfl (lv_at hl 2 rfl) ?_
                refine va_get (D := (dC, dI)) (ci := 5) (v := .ref a9) (C := RX6) (T := TX6) (N := 28) hx hb hts in_X6 hown hK hP 0 rfl rfl 15 (by decide) w_3 (fun _ h9 => h9) rfl dX6_go_107 ?_
                refine lv_iload_n hx hb dX6_go_110 rfl (lv_at hl 4 rfl) ?_
                refine lv_aload_n hx hb dX6_go_111 rfl (lv_at hl 2 rfl) ?_
                refine va_get (D := (dC, dI)) (ci := 5) (v := .ref a9) (C := RX6) (T := TX6) (N := 28) hx hb hts in_X6 hown hK hP 0 rfl rfl 15 (by decide) w_3 (fun _ h9 => h9) rfl dX6_go_112 ?_
                refine lv_iload_n hx hb dX6_go_115 rfl (lv_at hl 4 rfl) ?_
                refine zv_iald hx hb hK hP 9 0 rfl rfl (by omega) dX6_go_116 ?_
                refine zv_iconst hx hb dX6_go_117 ?_
                refine zv_iadd hx hb dX6_go_118 ?_
                refine zv_iconst hx hb dX6_go_119 ?_
                refine lv_iload_n hx hb dX6_go_120 rfl (lv_at hl 1 rfl) ?_
                refine zv_imul hx hb dX6_go_121 ?_
                refine zv_irem hx hb (by omega) dX6_go_122 ?_
                refine zv_iast (ws' := [(a0, .inr (5, [.long mtr, .ref a1, .int (zI ty), .ref a2, .ref a3, .ref a4, .ref a5, .ref a6, .int (zI mat), .int (zI mst), .int (zI mso), .int (zI mva), .int (zI mfa), .ref a7, .ref a8, .ref a9, .int (zI mlo), .ref a10, .int (zI rm), .ref a11, .ref a12, .int (zI tm), .ref a13, .ref a14, .ref a15, .ref a16, .int (zI tmy), .ref a17])), (a1, .inl (cB, 200, .inl (zA tx))), (a2, .inl (cI, 2, .inl (zA pa))), (a3, .inl (cI, 18, .inl (zA ms))), (a4, .inl (cI, 18, .inl (zA ml))), (a5, .inl (cI, 18, .inl (zA mr))), (a6, .inl (cI, 18, .inl (zA mt))), (a7, .inl (cI, 1143, .inl (zA nw))), (a8, .inl (cZ, 2, .inl (zA ik))), (a9, .inl (cI, 9, .inl (zA (zu su k (((su k) + 1) % (2 * (mt k))))))), (a10, .inl (cI, 9, .inl (zA ra))), (a11, .inl (cI, 9, .inl (zA bg))), (a12, .inl (cI, 4, .inl (zA to))), (a13, .inl (cI, 200, .inl (zA cd))), (a14, .inl (cI, 9, .inl (zA fi))), (a15, .inl (cI, 9, .inl (zA tsz))), (a16, .inl (cI, 9, .inl (zA tcm))), (a17, .inl (cI, 10, .inl (zA mg)))]) hx hb hK hP hD hS 9 0 rfl rfl (by omega) rfl dX6_go_123 (fun H locs hP hD hS => ?_)
                refine lv_iload hx hb dX6_go_124 (lv_at hl 0 rfl) ?_
                refine lv_istore_n (lv' := [(2, .int (zI (ml k))), (4, .int (zI (ml k))), (3, .int (zI (mt k))), (0, .ref a0), (1, .int (zI sz))]) hx hb dX6_go_126 rfl hl (by decide) rfl (fun ls hl => ?_)
                refine lv_goto (tgt := 167) hx hb dX6_go_127 (by decide) ?_
                refine lv_goto (tgt := 9) hx hb dX6_go_167 (by decide) ?_
                exact ih9 (zu su k (((su k) + 1) % (2 * (mt k)))) (ml k) (by omega) (by omega) (by first | exact q3 | (rw [ym]; exact sOk_up hh q3 (k := k) (by omega) (by omega) (by split <;> omega) (by omega) (by intro _; split <;> omega) (by intro z; omega)) | (rw [zu_zu]; exact sOk_up hh q3 (k := k) (by omega) (by omega) (by omega) (by omega) (by omega) (by omega))) (by first | (rw [q5, ym]; (repeat' split) <;> first | rfl | (exfalso; omega)) | (rw [q5, zu_zu]; (repeat' split) <;> first | rfl | (exfalso; omega)) | (rw [q5]; (repeat' split) <;> first | rfl | (exfalso; omega))) _ _ hP hD hS _ (lv_sub hl [3, 4, 0] rfl)
          · rw [if_neg (show ¬ ms k = 1 by omega), if_pos c_43] at q5
            have y2 := z2 (by omega)
            have y3 := z3 (by omega)
            refine lv_iload_n hx hb dX6_go_46 rfl (lv_at hl 2 rfl) ?_
            refine zv_if_ne (tgt := 59) hx hb (by omega) dX6_go_47 (by decide) (fun c_47 => ?_) (fun c_47 => ?_)
            · refine lv_aload_n hx hb dX6_go_59 rfl (lv_at hl 1 rfl) ?_
              refine va_get (D := (dC, dI)) (ci := 5) (v := .ref a5) (C := RX6) (T := TX6) (N := 28) hx hb hts in_X6 hown hK hP 0 rfl rfl 6 (by decide) w_5 (fun _ h9 => h9) rfl dX6_go_60 ?_
              refine lv_iload_n hx hb dX6_go_63 rfl (lv_at hl 3 rfl) ?_
              refine zv_iald hx hb hK hP 5 0 rfl rfl (by omega) dX6_go_64 ?_
              refine lv_istore_n (lv' := [(2, .int (zI (mr k))), (3, .int (zI (mt k))), (0, .ref a0), (1, .int (zI sz))]) hx hb dX6_go_65 rfl hl (by decide) rfl (fun ls hl => ?_)
              refine lv_goto (tgt := 167) hx hb dX6_go_66 (by decide) ?_
              refine lv_goto (tgt := 9) hx hb dX6_go_167 (by decide) ?_
              exact ih9 su (mr k) (by omega) (by omega) (by first | exact q3 | (rw [ym]; exact sOk_up hh q3 (k := k) (by omega) (by omega) (by split <;> omega) (by omega) (by intro _; split <;> omega) (by intro z; omega)) | (rw [zu_zu]; exact sOk_up hh q3 (k := k) (by omega) (by omega) (by omega) (by omega) (by omega) (by omega))) (by first | (rw [q5, ym]; (repeat' split) <;> first | rfl | (exfalso; omega)) | (rw [q5, zu_zu]; (repeat' split) <;> first | rfl | (exfalso; omega)) | (rw [q5]; (repeat' split) <;> first | rfl | (exfalso; omega))) _ _ hP hD hS _ (lv_sub hl [2, 3, 0] rfl)
            · refine lv_aload_n hx hb dX6_go_50 rfl (lv_at hl 1 rfl) ?_
              refine va_get (D := (dC, dI)) (ci := 5) (v := .ref a4) (C := RX6) (T := TX6) (N := 28) hx hb hts in_X6 hown hK hP 0 rfl rfl 5 (by decide) w_4 (fun _ h9 => h9) rfl dX6_go_51 ?_
              refine lv_iload_n hx hb dX6_go_54 rfl (lv_at hl 3 rfl) ?_
              refine zv_iald hx hb hK hP 4 0 rfl rfl (by omega) dX6_go_55 ?_
              refine lv_goto (tgt := 65) hx hb dX6_go_56 (by decide) ?_
              refine lv_istore_n (lv' := [(2, .int (zI (ml k))), (3, .int (zI (mt k))), (0, .ref a0), (1, .int (zI sz))]) hx hb dX6_go_65 rfl hl (by decide) rfl (fun ls hl => ?_)
              refine lv_goto (tgt := 167) hx hb dX6_go_66 (by decide) ?_
              refine lv_goto (tgt := 9) hx hb dX6_go_167 (by decide) ?_
              exact ih9 su (ml k) (by omega) (by omega) (by first | exact q3 | (rw [ym]; exact sOk_up hh q3 (k := k) (by omega) (by omega) (by split <;> omega) (by omega) (by intro _; split <;> omega) (by intro z; omega)) | (rw [zu_zu]; exact sOk_up hh q3 (k := k) (by omega) (by omega) (by omega) (by omega) (by omega) (by omega))) (by first | (rw [q5, ym]; (repeat' split) <;> first | rfl | (exfalso; omega)) | (rw [q5, zu_zu]; (repeat' split) <;> first | rfl | (exfalso; omega)) | (rw [q5]; (repeat' split) <;> first | rfl | (exfalso; omega))) _ _ hP hD hS _ (lv_sub hl [2, 3, 0] rfl)
        · refine zv_bipush hx hb dX6_go_26 (by decide +kernel) ?_
          rw [← hQQ]
          exact zw_iret hx hb hr hlocks (su) (congrArg (fun z => some (Value.int (zI z))) (show (goS ms ml mr mt mlo sz 9 sd (pa 0 - 1)).2 = (-9) from by first | (rw [← hRR, q5]; (repeat' split) <;> first | rfl | omega | (exfalso; omega)))) (by rw [← hRR, q5]; (repeat' split) <;> first | rfl | (exfalso; omega)) hP hS dX6_go_28
  refine lv_aload_n hx hb dX6_go_0 rfl (lv_at hl 0 rfl) ?_
  refine va_get (D := (dC, dI)) (ci := 5) (v := .ref a2) (C := RX6) (T := TX6) (N := 28) hx hb hts in_X6 hown hK hP 0 rfl rfl 3 (by decide) w_6 (fun _ h9 => h9) rfl dX6_go_1 ?_
  refine zv_iconst hx hb dX6_go_4 ?_
  refine zv_iald hx hb hK hP 2 0 rfl rfl (by omega) dX6_go_5 ?_
  refine zv_iconst hx hb dX6_go_6 ?_
  refine zv_isub hx hb dX6_go_7 ?_
  refine lv_istore_n (lv' := [(2, .int (zI ((pa 0) - 1))), (0, .ref a0), (1, .int (zI sz))]) hx hb dX6_go_8 rfl hl (by decide) rfl (fun ls hl => ?_)
  exact cut9 _ sd ((pa 0) - 1) (Nat.lt_succ_self _) (by omega) (by exact hsd) (by exact hRR) _ _ hP hD hS _ (lv_sub hl [1, 2, 0] rfl)
set_option maxHeartbeats 4000000 in
set_option maxRecDepth 100000 in
theorem c_X6_fromNow (l : Launch) (dC : Nat → ClassId) (dI : Nat → Nat → Nat) (cI cB cZ : ClassId) (a0 : Nat) (a1 : Nat) (a2 : Nat) (a3 : Nat) (a4 : Nat) (a5 : Nat) (a6 : Nat) (a7 : Nat) (a8 : Nat) (a9 : Nat) (a10 : Nat) (a11 : Nat) (a12 : Nat) (a13 : Nat) (a14 : Nat) (a15 : Nat) (a16 : Nat) (a17 : Nat) (mtr : Int64) (tx : Int → Int) (ty : Int) (pa : Int → Int) (ms : Int → Int) (ml : Int → Int) (mr : Int → Int) (mt : Int → Int) (mat : Int) (mst : Int) (mso : Int) (mva : Int) (mfa : Int) (nw : Int → Int) (ik : Int → Int) (sd : Int → Int) (mlo : Int) (ra : Int → Int) (rm : Int) (bg : Int → Int) (to : Int → Int) (tm : Int) (cd : Int → Int) (fi : Int → Int) (tsz : Int → Int) (tcm : Int → Int) (tmy : Int) (mg : Int → Int)  : MetW (S := Unit) l yX6_fromNow wsX6_fromNow ({ frames := 0, cells := 0, slots := 0, locals := 0 }) (dC, dI) vwCl (zT cI cB cZ) zN [(a0, .inr (5, [.long mtr, .ref a1, .int (zI ty), .ref a2, .ref a3, .ref a4, .ref a5, .ref a6, .int (zI mat), .int (zI mst), .int (zI mso), .int (zI mva), .int (zI mfa), .ref a7, .ref a8, .ref a9, .int (zI mlo), .ref a10, .int (zI rm), .ref a11, .ref a12, .int (zI tm), .ref a13, .ref a14, .ref a15, .ref a16, .int (zI tmy), .ref a17])), (a1, .inl (cB, 200, .inl (zA tx))), (a2, .inl (cI, 2, .inl (zA pa))), (a3, .inl (cI, 18, .inl (zA ms))), (a4, .inl (cI, 18, .inl (zA ml))), (a5, .inl (cI, 18, .inl (zA mr))), (a6, .inl (cI, 18, .inl (zA mt))), (a7, .inl (cI, 1143, .inl (zA nw))), (a8, .inl (cZ, 2, .inl (zA ik))), (a9, .inl (cI, 9, .inl (zA sd))), (a10, .inl (cI, 9, .inl (zA ra))), (a11, .inl (cI, 9, .inl (zA bg))), (a12, .inl (cI, 4, .inl (zA to))), (a13, .inl (cI, 200, .inl (zA cd))), (a14, .inl (cI, 9, .inl (zA fi))), (a15, .inl (cI, 9, .inl (zA tsz))), (a16, .inl (cI, 9, .inl (zA tcm))), (a17, .inl (cI, 10, .inl (zA mg)))] [.ref a0] (fun u => none) (fun u => [(a0, .inr (5, [.long mtr, .ref a1, .int (zI ty), .ref a2, .ref a3, .ref a4, .ref a5, .ref a6, .int (zI mat), .int (zI mst), .int (zI mso), .int (zI mva), .int (zI mfa), .ref a7, .ref a8, .ref a9, .int (zI (nw 18)), .ref a10, .int (zI rm), .ref a11, .ref a12, .int (zI tm), .ref a13, .ref a14, .ref a15, .ref a16, .int (zI tmy), .ref a17])), (a1, .inl (cB, 200, .inl (zA tx))), (a2, .inl (cI, 2, .inl (zA pa))), (a3, .inl (cI, 18, .inl (zA ms))), (a4, .inl (cI, 18, .inl (zA ml))), (a5, .inl (cI, 18, .inl (zA mr))), (a6, .inl (cI, 18, .inl (zA mt))), (a7, .inl (cI, 1143, .inl (zA nw))), (a8, .inl (cZ, 2, .inl (zA ik))), (a9, .inl (cI, 9, .inl (zA nw))), (a10, .inl (cI, 9, .inl (zA ra))), (a11, .inl (cI, 9, .inl (zA bg))), (a12, .inl (cI, 4, .inl (zA to))), (a13, .inl (cI, 200, .inl (zA cd))), (a14, .inl (cI, 9, .inl (zA fi))), (a15, .inl (cI, 9, .inl (zA tsz))), (a16, .inl (cI, 9, .inl (zA tcm))), (a17, .inl (cI, 10, .inl (zA mg)))]) (fun u => True) := by
  refine MetW.intro (cc := cX6_fromNow) (maxL := 2) (ret := none) (by decide) rfl (Nat.le_of_ble_eq_true rfl) ?_
  intro p e s m args below meth c A hx hb hr hlocks hml hts hown hP hK hD hS hA hE ls hl
  have hown : s.vm.findClass RX6 = some m.cls := hown
  have hl : lv_has ls 2 [(0, .ref a0)] := hl
  generalize hRM : ({ frames := 0, cells := 0, slots := 0, locals := 0 } : Room) = RM
  generalize hQQ : MQ below (QW (S := Unit) (dC, dI) vwCl A (fun u => none) (fun u => [(a0, .inr (5, [.long mtr, .ref a1, .int (zI ty), .ref a2, .ref a3, .ref a4, .ref a5, .ref a6, .int (zI mat), .int (zI mst), .int (zI mso), .int (zI mva), .int (zI mfa), .ref a7, .ref a8, .ref a9, .int (zI (nw 18)), .ref a10, .int (zI rm), .ref a11, .ref a12, .int (zI tm), .ref a13, .ref a14, .ref a15, .ref a16, .int (zI tmy), .ref a17])), (a1, .inl (cB, 200, .inl (zA tx))), (a2, .inl (cI, 2, .inl (zA pa))), (a3, .inl (cI, 18, .inl (zA ms))), (a4, .inl (cI, 18, .inl (zA ml))), (a5, .inl (cI, 18, .inl (zA mr))), (a6, .inl (cI, 18, .inl (zA mt))), (a7, .inl (cI, 1143, .inl (zA nw))), (a8, .inl (cZ, 2, .inl (zA ik))), (a9, .inl (cI, 9, .inl (zA nw))), (a10, .inl (cI, 9, .inl (zA ra))), (a11, .inl (cI, 9, .inl (zA bg))), (a12, .inl (cI, 4, .inl (zA to))), (a13, .inl (cI, 200, .inl (zA cd))), (a14, .inl (cI, 9, .inl (zA fi))), (a15, .inl (cI, 9, .inl (zA tsz))), (a16, .inl (cI, 9, .inl (zA tcm))), (a17, .inl (cI, 10, .inl (zA mg)))]) (fun u => True)) args s 0 0 A = QQ
  have in_X6 : ∀ w ∈ wsX60, w ∈ wsX6_fromNow := by decide +kernel
  have w_0 := hts (.fieldLink RX6 29 "WallMarblesModel" "now" "[I") (by decide +kernel)
  have w_1 := hts (.fieldLink RX6 116 "WallMarblesModel" "lodged" "I") (by decide +kernel)
  have w_2 := hts (.fieldLink RX6 36 "WallMarblesModel" "stands" "[I") (by decide +kernel)
  have cut2 : ∀ (nM : Nat) (i : Int) (cur : Int → Int),  ((9 - i).toNat) < nM → (0 ≤ i ∧ i ≤ 9) → (∀ j : Int, 0 ≤ j → j < i → cur j = nw j) → ∀ (H : Heap) (locs : List Loc), va_P (dC, dI) vwCl [(a0, .inr (5, [.long mtr, .ref a1, .int (zI ty), .ref a2, .ref a3, .ref a4, .ref a5, .ref a6, .int (zI mat), .int (zI mst), .int (zI mso), .int (zI mva), .int (zI mfa), .ref a7, .ref a8, .ref a9, .int (zI mlo), .ref a10, .int (zI rm), .ref a11, .ref a12, .int (zI tm), .ref a13, .ref a14, .ref a15, .ref a16, .int (zI tmy), .ref a17])), (a1, .inl (cB, 200, .inl (zA tx))), (a2, .inl (cI, 2, .inl (zA pa))), (a3, .inl (cI, 18, .inl (zA ms))), (a4, .inl (cI, 18, .inl (zA ml))), (a5, .inl (cI, 18, .inl (zA mr))), (a6, .inl (cI, 18, .inl (zA mt))), (a7, .inl (cI, 1143, .inl (zA nw))), (a8, .inl (cZ, 2, .inl (zA ik))), (a9, .inl (cI, 9, .inl (zA cur))), (a10, .inl (cI, 9, .inl (zA ra))), (a11, .inl (cI, 9, .inl (zA bg))), (a12, .inl (cI, 4, .inl (zA to))), (a13, .inl (cI, 200, .inl (zA cd))), (a14, .inl (cI, 9, .inl (zA fi))), (a15, .inl (cI, 9, .inl (zA tsz))), (a16, .inl (cI, 9, .inl (zA tcm))), (a17, .inl (cI, 10, .inl (zA mg)))] H → va_D A [(a0, .inr (5, [.long mtr, .ref a1, .int (zI ty), .ref a2, .ref a3, .ref a4, .ref a5, .ref a6, .int (zI mat), .int (zI mst), .int (zI mso), .int (zI mva), .int (zI mfa), .ref a7, .ref a8, .ref a9, .int (zI mlo), .ref a10, .int (zI rm), .ref a11, .ref a12, .int (zI tm), .ref a13, .ref a14, .ref a15, .ref a16, .int (zI tmy), .ref a17])), (a1, .inl (cB, 200, .inl (zA tx))), (a2, .inl (cI, 2, .inl (zA pa))), (a3, .inl (cI, 18, .inl (zA ms))), (a4, .inl (cI, 18, .inl (zA ml))), (a5, .inl (cI, 18, .inl (zA mr))), (a6, .inl (cI, 18, .inl (zA mt))), (a7, .inl (cI, 1143, .inl (zA nw))), (a8, .inl (cZ, 2, .inl (zA ik))), (a9, .inl (cI, 9, .inl (zA cur))), (a10, .inl (cI, 9, .inl (zA ra))), (a11, .inl (cI, 9, .inl (zA bg))), (a12, .inl (cI, 4, .inl (zA to))), (a13, .inl (cI, 200, .inl (zA cd))), (a14, .inl (cI, 9, .inl (zA fi))), (a15, .inl (cI, 9, .inl (zA tsz))), (a16, .inl (cI, 9, .inl (zA tcm))), (a17, .inl (cI, 10, .inl (zA mg)))] → va_S A s.heap H locs → ∀ ls : Array Slot, lv_has ls 2 [(0, .ref a0), (1, .int (zI i))] → W p l e RM s m args below meth c H locs 0 0 QQ (F0 m 2 ls []) := by
    intro nM
    induction nM with
    | zero => intro i cur hmu; exact absurd hmu (Nat.not_lt_zero _)
    | succ nM ih2 =>
      intro i cur hmu hi hc H locs hP hD hS ls hl
      refine lv_iload_n hx hb dX6_fromNow_2 rfl (lv_at hl 1 rfl) ?_
      refine zv_bipush hx hb dX6_fromNow_3 (by decide +kernel) ?_
      refine zv_icmp_ge (tgt := 26) hx hb (by omega) (by omega) dX6_fromNow_5 (by decide) (fun c_5 => ?_) (fun c_5 => ?_)
      · obtain ⟨hP, hD⟩ : va_P (dC, dI) vwCl [(a0, .inr (5, [.long mtr, .ref a1, .int (zI ty), .ref a2, .ref a3, .ref a4, .ref a5, .ref a6, .int (zI mat), .int (zI mst), .int (zI mso), .int (zI mva), .int (zI mfa), .ref a7, .ref a8, .ref a9, .int (zI mlo), .ref a10, .int (zI rm), .ref a11, .ref a12, .int (zI tm), .ref a13, .ref a14, .ref a15, .ref a16, .int (zI tmy), .ref a17])), (a1, .inl (cB, 200, .inl (zA tx))), (a2, .inl (cI, 2, .inl (zA pa))), (a3, .inl (cI, 18, .inl (zA ms))), (a4, .inl (cI, 18, .inl (zA ml))), (a5, .inl (cI, 18, .inl (zA mr))), (a6, .inl (cI, 18, .inl (zA mt))), (a7, .inl (cI, 1143, .inl (zA nw))), (a8, .inl (cZ, 2, .inl (zA ik))), (a9, .inl (cI, 9, .inl (zA nw))), (a10, .inl (cI, 9, .inl (zA ra))), (a11, .inl (cI, 9, .inl (zA bg))), (a12, .inl (cI, 4, .inl (zA to))), (a13, .inl (cI, 200, .inl (zA cd))), (a14, .inl (cI, 9, .inl (zA fi))), (a15, .inl (cI, 9, .inl (zA tsz))), (a16, .inl (cI, 9, .inl (zA tcm))), (a17, .inl (cI, 10, .inl (zA mg)))] H ∧ va_D A [(a0, .inr (5, [.long mtr, .ref a1, .int (zI ty), .ref a2, .ref a3, .ref a4, .ref a5, .ref a6, .int (zI mat), .int (zI mst), .int (zI mso), .int (zI mva), .int (zI mfa), .ref a7, .ref a8, .ref a9, .int (zI mlo), .ref a10, .int (zI rm), .ref a11, .ref a12, .int (zI tm), .ref a13, .ref a14, .ref a15, .ref a16, .int (zI tmy), .ref a17])), (a1, .inl (cB, 200, .inl (zA tx))), (a2, .inl (cI, 2, .inl (zA pa))), (a3, .inl (cI, 18, .inl (zA ms))), (a4, .inl (cI, 18, .inl (zA ml))), (a5, .inl (cI, 18, .inl (zA mr))), (a6, .inl (cI, 18, .inl (zA mt))), (a7, .inl (cI, 1143, .inl (zA nw))), (a8, .inl (cZ, 2, .inl (zA ik))), (a9, .inl (cI, 9, .inl (zA nw))), (a10, .inl (cI, 9, .inl (zA ra))), (a11, .inl (cI, 9, .inl (zA bg))), (a12, .inl (cI, 4, .inl (zA to))), (a13, .inl (cI, 200, .inl (zA cd))), (a14, .inl (cI, 9, .inl (zA fi))), (a15, .inl (cI, 9, .inl (zA tsz))), (a16, .inl (cI, 9, .inl (zA tcm))), (a17, .inl (cI, 10, .inl (zA mg)))] := zP_arr hP hD (q0 := 9) rfl (by intro j h0 h1; exact hc j h0 (by omega)) rfl
        refine lv_aload_n hx hb dX6_fromNow_26 rfl (lv_at hl 0 rfl) ?_
        refine lv_aload_n hx hb dX6_fromNow_27 rfl (lv_at hl 0 rfl) ?_
        refine va_get (D := (dC, dI)) (ci := 5) (v := .ref a7) (C := RX6) (T := TX6) (N := 28) hx hb hts in_X6 hown hK hP 0 rfl rfl 13 (by decide) w_0 (fun _ h9 => h9) rfl dX6_fromNow_28 ?_
        refine zv_bipush hx hb dX6_fromNow_31 (by decide +kernel) ?_
        refine zv_iald hx hb hK hP 7 0 rfl rfl (by omega) dX6_fromNow_33 ?_
        refine va_put (D := (dC, dI)) (ci := 5) (v := .int (zI (nw 18))) (ty := .int) (C := RX6) (T := TX6) (N := 28) hx hb hts in_X6 tyX6 tyX6_ok nmX6 hown hK hP hD hS 0 rfl rfl 16 (by decide) w_1 (fun _ h9 => h9) rfl (by decide +kernel) rfl rfl (Nat.le_of_ble_eq_true rfl) dX6_fromNow_34 (fun H locs hP hD hS => ?_)
        have hP : va_P (dC, dI) vwCl [(a0, .inr (5, [.long mtr, .ref a1, .int (zI ty), .ref a2, .ref a3, .ref a4, .ref a5, .ref a6, .int (zI mat), .int (zI mst), .int (zI mso), .int (zI mva), .int (zI mfa), .ref a7, .ref a8, .ref a9, .int (zI (nw 18)), .ref a10, .int (zI rm), .ref a11, .ref a12, .int (zI tm), .ref a13, .ref a14, .ref a15, .ref a16, .int (zI tmy), .ref a17])), (a1, .inl (cB, 200, .inl (zA tx))), (a2, .inl (cI, 2, .inl (zA pa))), (a3, .inl (cI, 18, .inl (zA ms))), (a4, .inl (cI, 18, .inl (zA ml))), (a5, .inl (cI, 18, .inl (zA mr))), (a6, .inl (cI, 18, .inl (zA mt))), (a7, .inl (cI, 1143, .inl (zA nw))), (a8, .inl (cZ, 2, .inl (zA ik))), (a9, .inl (cI, 9, .inl (zA nw))), (a10, .inl (cI, 9, .inl (zA ra))), (a11, .inl (cI, 9, .inl (zA bg))), (a12, .inl (cI, 4, .inl (zA to))), (a13, .inl (cI, 200, .inl (zA cd))), (a14, .inl (cI, 9, .inl (zA fi))), (a15, .inl (cI, 9, .inl (zA tsz))), (a16, .inl (cI, 9, .inl (zA tcm))), (a17, .inl (cI, 10, .inl (zA mg)))] H := hP
        have hD : va_D A [(a0, .inr (5, [.long mtr, .ref a1, .int (zI ty), .ref a2, .ref a3, .ref a4, .ref a5, .ref a6, .int (zI mat), .int (zI mst), .int (zI mso), .int (zI mva), .int (zI mfa), .ref a7, .ref a8, .ref a9, .int (zI (nw 18)), .ref a10, .int (zI rm), .ref a11, .ref a12, .int (zI tm), .ref a13, .ref a14, .ref a15, .ref a16, .int (zI tmy), .ref a17])), (a1, .inl (cB, 200, .inl (zA tx))), (a2, .inl (cI, 2, .inl (zA pa))), (a3, .inl (cI, 18, .inl (zA ms))), (a4, .inl (cI, 18, .inl (zA ml))), (a5, .inl (cI, 18, .inl (zA mr))), (a6, .inl (cI, 18, .inl (zA mt))), (a7, .inl (cI, 1143, .inl (zA nw))), (a8, .inl (cZ, 2, .inl (zA ik))), (a9, .inl (cI, 9, .inl (zA nw))), (a10, .inl (cI, 9, .inl (zA ra))), (a11, .inl (cI, 9, .inl (zA bg))), (a12, .inl (cI, 4, .inl (zA to))), (a13, .inl (cI, 200, .inl (zA cd))), (a14, .inl (cI, 9, .inl (zA fi))), (a15, .inl (cI, 9, .inl (zA tsz))), (a16, .inl (cI, 9, .inl (zA tcm))), (a17, .inl (cI, 10, .inl (zA mg)))] := hD
        rw [← hQQ]
        exact zw_vret hx hb hr hlocks () rfl trivial hP hS dX6_fromNow_37
      · refine lv_aload_n hx hb dX6_fromNow_8 rfl (lv_at hl 0 rfl) ?_
        refine va_get (D := (dC, dI)) (ci := 5) (v := .ref a9) (C := RX6) (T := TX6) (N := 28) hx hb hts in_X6 hown hK hP 0 rfl rfl 15 (by decide) w_2 (fun _ h9 => h9) rfl dX6_fromNow_9 ?_
        refine lv_iload_n hx hb dX6_fromNow_12 rfl (lv_at hl 1 rfl) ?_
        refine lv_aload_n hx hb dX6_fromNow_13 rfl (lv_at hl 0 rfl) ?_
        refine va_get (D := (dC, dI)) (ci := 5) (v := .ref a7) (C := RX6) (T := TX6) (N := 28) hx hb hts in_X6 hown hK hP 0 rfl rfl 13 (by decide) w_0 (fun _ h9 => h9) rfl dX6_fromNow_14 ?_
        refine lv_iload_n hx hb dX6_fromNow_17 rfl (lv_at hl 1 rfl) ?_
        refine zv_iald hx hb hK hP 7 0 rfl rfl (by omega) dX6_fromNow_18 ?_
        refine zv_iast (ws' := [(a0, .inr (5, [.long mtr, .ref a1, .int (zI ty), .ref a2, .ref a3, .ref a4, .ref a5, .ref a6, .int (zI mat), .int (zI mst), .int (zI mso), .int (zI mva), .int (zI mfa), .ref a7, .ref a8, .ref a9, .int (zI mlo), .ref a10, .int (zI rm), .ref a11, .ref a12, .int (zI tm), .ref a13, .ref a14, .ref a15, .ref a16, .int (zI tmy), .ref a17])), (a1, .inl (cB, 200, .inl (zA tx))), (a2, .inl (cI, 2, .inl (zA pa))), (a3, .inl (cI, 18, .inl (zA ms))), (a4, .inl (cI, 18, .inl (zA ml))), (a5, .inl (cI, 18, .inl (zA mr))), (a6, .inl (cI, 18, .inl (zA mt))), (a7, .inl (cI, 1143, .inl (zA nw))), (a8, .inl (cZ, 2, .inl (zA ik))), (a9, .inl (cI, 9, .inl (zA (zu cur i (nw i))))), (a10, .inl (cI, 9, .inl (zA ra))), (a11, .inl (cI, 9, .inl (zA bg))), (a12, .inl (cI, 4, .inl (zA to))), (a13, .inl (cI, 200, .inl (zA cd))), (a14, .inl (cI, 9, .inl (zA fi))), (a15, .inl (cI, 9, .inl (zA tsz))), (a16, .inl (cI, 9, .inl (zA tcm))), (a17, .inl (cI, 10, .inl (zA mg)))]) hx hb hK hP hD hS 9 0 rfl rfl (by omega) rfl dX6_fromNow_19 (fun H locs hP hD hS => ?_)
        refine zv_iinc (k := 1) (a := i) (n := 1) (lv' := [(1, .int (zI (i + 1))), (0, .ref a0)]) hx hb dX6_fromNow_20 hl rfl (by decide) rfl (fun ls hl => ?_)
        refine lv_goto (tgt := 2) hx hb dX6_fromNow_23 (by decide) ?_
        exact ih2 (i + 1) (zu cur i (nw i)) (by omega) (by omega) (by intro j h0 h1; unfold zu; split; (rename_i z; rw [z]); exact hc j h0 (by omega)) _ _ hP hD hS _ (lv_sub hl [1, 0] rfl)
  refine zv_iconst hx hb dX6_fromNow_0 ?_
  refine lv_istore_n (lv' := [(1, .int (zI 0)), (0, .ref a0)]) hx hb dX6_fromNow_1 rfl hl (by decide) rfl (fun ls hl => ?_)
  exact cut2 _ 0 sd (Nat.lt_succ_self _) (by omega) (by intro j h0 h1; omega) _ _ hP hD hS _ (lv_sub hl [1, 0] rfl)
set_option maxHeartbeats 4000000 in
set_option maxRecDepth 100000 in
theorem c_X6_fromBeginning (l : Launch) (dC : Nat → ClassId) (dI : Nat → Nat → Nat) (cI cB cZ : ClassId) (a0 : Nat) (a1 : Nat) (a2 : Nat) (a3 : Nat) (a4 : Nat) (a5 : Nat) (a6 : Nat) (a7 : Nat) (a8 : Nat) (a9 : Nat) (a10 : Nat) (a11 : Nat) (a12 : Nat) (a13 : Nat) (a14 : Nat) (a15 : Nat) (a16 : Nat) (a17 : Nat) (mtr : Int64) (tx : Int → Int) (ty : Int) (pa : Int → Int) (ms : Int → Int) (ml : Int → Int) (mr : Int → Int) (mt : Int → Int) (mat : Int) (mst : Int) (mso : Int) (mva : Int) (mfa : Int) (nw : Int → Int) (ik : Int → Int) (sd : Int → Int) (mlo : Int) (ra : Int → Int) (rm : Int) (bg : Int → Int) (to : Int → Int) (tm : Int) (cd : Int → Int) (fi : Int → Int) (tsz : Int → Int) (tcm : Int → Int) (tmy : Int) (mg : Int → Int) (v : Int)  : MetW (S := Unit) l yX6_fromBeginning wsX6_fromBeginning ({ frames := 0, cells := 0, slots := 0, locals := 0 }) (dC, dI) vwCl (zT cI cB cZ) zN [(a0, .inr (5, [.long mtr, .ref a1, .int (zI ty), .ref a2, .ref a3, .ref a4, .ref a5, .ref a6, .int (zI mat), .int (zI mst), .int (zI mso), .int (zI mva), .int (zI mfa), .ref a7, .ref a8, .ref a9, .int (zI mlo), .ref a10, .int (zI rm), .ref a11, .ref a12, .int (zI tm), .ref a13, .ref a14, .ref a15, .ref a16, .int (zI tmy), .ref a17])), (a1, .inl (cB, 200, .inl (zA tx))), (a2, .inl (cI, 2, .inl (zA pa))), (a3, .inl (cI, 18, .inl (zA ms))), (a4, .inl (cI, 18, .inl (zA ml))), (a5, .inl (cI, 18, .inl (zA mr))), (a6, .inl (cI, 18, .inl (zA mt))), (a7, .inl (cI, 1143, .inl (zA nw))), (a8, .inl (cZ, 2, .inl (zA ik))), (a9, .inl (cI, 9, .inl (zA sd))), (a10, .inl (cI, 9, .inl (zA ra))), (a11, .inl (cI, 9, .inl (zA bg))), (a12, .inl (cI, 4, .inl (zA to))), (a13, .inl (cI, 200, .inl (zA cd))), (a14, .inl (cI, 9, .inl (zA fi))), (a15, .inl (cI, 9, .inl (zA tsz))), (a16, .inl (cI, 9, .inl (zA tcm))), (a17, .inl (cI, 10, .inl (zA mg)))] [.ref a0, .int (zI v)] (fun u => none) (fun u => [(a0, .inr (5, [.long mtr, .ref a1, .int (zI ty), .ref a2, .ref a3, .ref a4, .ref a5, .ref a6, .int (zI mat), .int (zI mst), .int (zI mso), .int (zI mva), .int (zI mfa), .ref a7, .ref a8, .ref a9, .int (zI v), .ref a10, .int (zI rm), .ref a11, .ref a12, .int (zI tm), .ref a13, .ref a14, .ref a15, .ref a16, .int (zI tmy), .ref a17])), (a1, .inl (cB, 200, .inl (zA tx))), (a2, .inl (cI, 2, .inl (zA pa))), (a3, .inl (cI, 18, .inl (zA ms))), (a4, .inl (cI, 18, .inl (zA ml))), (a5, .inl (cI, 18, .inl (zA mr))), (a6, .inl (cI, 18, .inl (zA mt))), (a7, .inl (cI, 1143, .inl (zA nw))), (a8, .inl (cZ, 2, .inl (zA ik))), (a9, .inl (cI, 9, .inl (zA ((fun _ => 0))))), (a10, .inl (cI, 9, .inl (zA ra))), (a11, .inl (cI, 9, .inl (zA bg))), (a12, .inl (cI, 4, .inl (zA to))), (a13, .inl (cI, 200, .inl (zA cd))), (a14, .inl (cI, 9, .inl (zA fi))), (a15, .inl (cI, 9, .inl (zA tsz))), (a16, .inl (cI, 9, .inl (zA tcm))), (a17, .inl (cI, 10, .inl (zA mg)))]) (fun u => True) := by
  refine MetW.intro (cc := cX6_fromBeginning) (maxL := 3) (ret := none) (by decide) rfl (Nat.le_of_ble_eq_true rfl) ?_
  intro p e s m args below meth c A hx hb hr hlocks hml hts hown hP hK hD hS hA hE ls hl
  have hown : s.vm.findClass RX6 = some m.cls := hown
  have hl : lv_has ls 3 [(0, .ref a0), (1, .int (zI v))] := hl
  generalize hRM : ({ frames := 0, cells := 0, slots := 0, locals := 0 } : Room) = RM
  generalize hQQ : MQ below (QW (S := Unit) (dC, dI) vwCl A (fun u => none) (fun u => [(a0, .inr (5, [.long mtr, .ref a1, .int (zI ty), .ref a2, .ref a3, .ref a4, .ref a5, .ref a6, .int (zI mat), .int (zI mst), .int (zI mso), .int (zI mva), .int (zI mfa), .ref a7, .ref a8, .ref a9, .int (zI v), .ref a10, .int (zI rm), .ref a11, .ref a12, .int (zI tm), .ref a13, .ref a14, .ref a15, .ref a16, .int (zI tmy), .ref a17])), (a1, .inl (cB, 200, .inl (zA tx))), (a2, .inl (cI, 2, .inl (zA pa))), (a3, .inl (cI, 18, .inl (zA ms))), (a4, .inl (cI, 18, .inl (zA ml))), (a5, .inl (cI, 18, .inl (zA mr))), (a6, .inl (cI, 18, .inl (zA mt))), (a7, .inl (cI, 1143, .inl (zA nw))), (a8, .inl (cZ, 2, .inl (zA ik))), (a9, .inl (cI, 9, .inl (zA ((fun _ => 0))))), (a10, .inl (cI, 9, .inl (zA ra))), (a11, .inl (cI, 9, .inl (zA bg))), (a12, .inl (cI, 4, .inl (zA to))), (a13, .inl (cI, 200, .inl (zA cd))), (a14, .inl (cI, 9, .inl (zA fi))), (a15, .inl (cI, 9, .inl (zA tsz))), (a16, .inl (cI, 9, .inl (zA tcm))), (a17, .inl (cI, 10, .inl (zA mg)))]) (fun u => True)) args s 0 0 A = QQ
  have in_X6 : ∀ w ∈ wsX60, w ∈ wsX6_fromBeginning := by decide +kernel
  have w_0 := hts (.fieldLink RX6 116 "WallMarblesModel" "lodged" "I") (by decide +kernel)
  have w_1 := hts (.fieldLink RX6 36 "WallMarblesModel" "stands" "[I") (by decide +kernel)
  have cut2 : ∀ (nM : Nat) (i : Int) (cur : Int → Int),  ((9 - i).toNat) < nM → (0 ≤ i ∧ i ≤ 9) → (∀ j : Int, 0 ≤ j → j < i → cur j = 0) → ∀ (H : Heap) (locs : List Loc), va_P (dC, dI) vwCl [(a0, .inr (5, [.long mtr, .ref a1, .int (zI ty), .ref a2, .ref a3, .ref a4, .ref a5, .ref a6, .int (zI mat), .int (zI mst), .int (zI mso), .int (zI mva), .int (zI mfa), .ref a7, .ref a8, .ref a9, .int (zI mlo), .ref a10, .int (zI rm), .ref a11, .ref a12, .int (zI tm), .ref a13, .ref a14, .ref a15, .ref a16, .int (zI tmy), .ref a17])), (a1, .inl (cB, 200, .inl (zA tx))), (a2, .inl (cI, 2, .inl (zA pa))), (a3, .inl (cI, 18, .inl (zA ms))), (a4, .inl (cI, 18, .inl (zA ml))), (a5, .inl (cI, 18, .inl (zA mr))), (a6, .inl (cI, 18, .inl (zA mt))), (a7, .inl (cI, 1143, .inl (zA nw))), (a8, .inl (cZ, 2, .inl (zA ik))), (a9, .inl (cI, 9, .inl (zA cur))), (a10, .inl (cI, 9, .inl (zA ra))), (a11, .inl (cI, 9, .inl (zA bg))), (a12, .inl (cI, 4, .inl (zA to))), (a13, .inl (cI, 200, .inl (zA cd))), (a14, .inl (cI, 9, .inl (zA fi))), (a15, .inl (cI, 9, .inl (zA tsz))), (a16, .inl (cI, 9, .inl (zA tcm))), (a17, .inl (cI, 10, .inl (zA mg)))] H → va_D A [(a0, .inr (5, [.long mtr, .ref a1, .int (zI ty), .ref a2, .ref a3, .ref a4, .ref a5, .ref a6, .int (zI mat), .int (zI mst), .int (zI mso), .int (zI mva), .int (zI mfa), .ref a7, .ref a8, .ref a9, .int (zI mlo), .ref a10, .int (zI rm), .ref a11, .ref a12, .int (zI tm), .ref a13, .ref a14, .ref a15, .ref a16, .int (zI tmy), .ref a17])), (a1, .inl (cB, 200, .inl (zA tx))), (a2, .inl (cI, 2, .inl (zA pa))), (a3, .inl (cI, 18, .inl (zA ms))), (a4, .inl (cI, 18, .inl (zA ml))), (a5, .inl (cI, 18, .inl (zA mr))), (a6, .inl (cI, 18, .inl (zA mt))), (a7, .inl (cI, 1143, .inl (zA nw))), (a8, .inl (cZ, 2, .inl (zA ik))), (a9, .inl (cI, 9, .inl (zA cur))), (a10, .inl (cI, 9, .inl (zA ra))), (a11, .inl (cI, 9, .inl (zA bg))), (a12, .inl (cI, 4, .inl (zA to))), (a13, .inl (cI, 200, .inl (zA cd))), (a14, .inl (cI, 9, .inl (zA fi))), (a15, .inl (cI, 9, .inl (zA tsz))), (a16, .inl (cI, 9, .inl (zA tcm))), (a17, .inl (cI, 10, .inl (zA mg)))] → va_S A s.heap H locs → ∀ ls : Array Slot, lv_has ls 3 [(0, .ref a0), (1, .int (zI v)), (2, .int (zI i))] → W p l e RM s m args below meth c H locs 0 0 QQ (F0 m 2 ls []) := by
    intro nM
    induction nM with
    | zero => intro i cur hmu; exact absurd hmu (Nat.not_lt_zero _)
    | succ nM ih2 =>
      intro i cur hmu hi hc H locs hP hD hS ls hl
      refine lv_iload_n hx hb dX6_fromBeginning_2 rfl (lv_at hl 2 rfl) ?_
      refine zv_bipush hx hb dX6_fromBeginning_3 (by decide +kernel) ?_
      refine zv_icmp_ge (tgt := 21) hx hb (by omega) (by omega) dX6_fromBeginning_5 (by decide) (fun c_5 => ?_) (fun c_5 => ?_)
      · obtain ⟨hP, hD⟩ : va_P (dC, dI) vwCl [(a0, .inr (5, [.long mtr, .ref a1, .int (zI ty), .ref a2, .ref a3, .ref a4, .ref a5, .ref a6, .int (zI mat), .int (zI mst), .int (zI mso), .int (zI mva), .int (zI mfa), .ref a7, .ref a8, .ref a9, .int (zI mlo), .ref a10, .int (zI rm), .ref a11, .ref a12, .int (zI tm), .ref a13, .ref a14, .ref a15, .ref a16, .int (zI tmy), .ref a17])), (a1, .inl (cB, 200, .inl (zA tx))), (a2, .inl (cI, 2, .inl (zA pa))), (a3, .inl (cI, 18, .inl (zA ms))), (a4, .inl (cI, 18, .inl (zA ml))), (a5, .inl (cI, 18, .inl (zA mr))), (a6, .inl (cI, 18, .inl (zA mt))), (a7, .inl (cI, 1143, .inl (zA nw))), (a8, .inl (cZ, 2, .inl (zA ik))), (a9, .inl (cI, 9, .inl (zA ((fun _ => 0))))), (a10, .inl (cI, 9, .inl (zA ra))), (a11, .inl (cI, 9, .inl (zA bg))), (a12, .inl (cI, 4, .inl (zA to))), (a13, .inl (cI, 200, .inl (zA cd))), (a14, .inl (cI, 9, .inl (zA fi))), (a15, .inl (cI, 9, .inl (zA tsz))), (a16, .inl (cI, 9, .inl (zA tcm))), (a17, .inl (cI, 10, .inl (zA mg)))] H ∧ va_D A [(a0, .inr (5, [.long mtr, .ref a1, .int (zI ty), .ref a2, .ref a3, .ref a4, .ref a5, .ref a6, .int (zI mat), .int (zI mst), .int (zI mso), .int (zI mva), .int (zI mfa), .ref a7, .ref a8, .ref a9, .int (zI mlo), .ref a10, .int (zI rm), .ref a11, .ref a12, .int (zI tm), .ref a13, .ref a14, .ref a15, .ref a16, .int (zI tmy), .ref a17])), (a1, .inl (cB, 200, .inl (zA tx))), (a2, .inl (cI, 2, .inl (zA pa))), (a3, .inl (cI, 18, .inl (zA ms))), (a4, .inl (cI, 18, .inl (zA ml))), (a5, .inl (cI, 18, .inl (zA mr))), (a6, .inl (cI, 18, .inl (zA mt))), (a7, .inl (cI, 1143, .inl (zA nw))), (a8, .inl (cZ, 2, .inl (zA ik))), (a9, .inl (cI, 9, .inl (zA ((fun _ => 0))))), (a10, .inl (cI, 9, .inl (zA ra))), (a11, .inl (cI, 9, .inl (zA bg))), (a12, .inl (cI, 4, .inl (zA to))), (a13, .inl (cI, 200, .inl (zA cd))), (a14, .inl (cI, 9, .inl (zA fi))), (a15, .inl (cI, 9, .inl (zA tsz))), (a16, .inl (cI, 9, .inl (zA tcm))), (a17, .inl (cI, 10, .inl (zA mg)))] := zP_arr hP hD (q0 := 9) rfl (by intro j h0 h1; exact hc j h0 (by omega)) rfl
        refine lv_aload_n hx hb dX6_fromBeginning_21 rfl (lv_at hl 0 rfl) ?_
        refine lv_iload_n hx hb dX6_fromBeginning_22 rfl (lv_at hl 1 rfl) ?_
        refine va_put (D := (dC, dI)) (ci := 5) (v := .int (zI v)) (ty := .int) (C := RX6) (T := TX6) (N := 28) hx hb hts in_X6 tyX6 tyX6_ok nmX6 hown hK hP hD hS 0 rfl rfl 16 (by decide) w_0 (fun _ h9 => h9) rfl (by decide +kernel) rfl rfl (Nat.le_of_ble_eq_true rfl) dX6_fromBeginning_23 (fun H locs hP hD hS => ?_)
        have hP : va_P (dC, dI) vwCl [(a0, .inr (5, [.long mtr, .ref a1, .int (zI ty), .ref a2, .ref a3, .ref a4, .ref a5, .ref a6, .int (zI mat), .int (zI mst), .int (zI mso), .int (zI mva), .int (zI mfa), .ref a7, .ref a8, .ref a9, .int (zI v), .ref a10, .int (zI rm), .ref a11, .ref a12, .int (zI tm), .ref a13, .ref a14, .ref a15, .ref a16, .int (zI tmy), .ref a17])), (a1, .inl (cB, 200, .inl (zA tx))), (a2, .inl (cI, 2, .inl (zA pa))), (a3, .inl (cI, 18, .inl (zA ms))), (a4, .inl (cI, 18, .inl (zA ml))), (a5, .inl (cI, 18, .inl (zA mr))), (a6, .inl (cI, 18, .inl (zA mt))), (a7, .inl (cI, 1143, .inl (zA nw))), (a8, .inl (cZ, 2, .inl (zA ik))), (a9, .inl (cI, 9, .inl (zA ((fun _ => 0))))), (a10, .inl (cI, 9, .inl (zA ra))), (a11, .inl (cI, 9, .inl (zA bg))), (a12, .inl (cI, 4, .inl (zA to))), (a13, .inl (cI, 200, .inl (zA cd))), (a14, .inl (cI, 9, .inl (zA fi))), (a15, .inl (cI, 9, .inl (zA tsz))), (a16, .inl (cI, 9, .inl (zA tcm))), (a17, .inl (cI, 10, .inl (zA mg)))] H := hP
        have hD : va_D A [(a0, .inr (5, [.long mtr, .ref a1, .int (zI ty), .ref a2, .ref a3, .ref a4, .ref a5, .ref a6, .int (zI mat), .int (zI mst), .int (zI mso), .int (zI mva), .int (zI mfa), .ref a7, .ref a8, .ref a9, .int (zI v), .ref a10, .int (zI rm), .ref a11, .ref a12, .int (zI tm), .ref a13, .ref a14, .ref a15, .ref a16, .int (zI tmy), .ref a17])), (a1, .inl (cB, 200, .inl (zA tx))), (a2, .inl (cI, 2, .inl (zA pa))), (a3, .inl (cI, 18, .inl (zA ms))), (a4, .inl (cI, 18, .inl (zA ml))), (a5, .inl (cI, 18, .inl (zA mr))), (a6, .inl (cI, 18, .inl (zA mt))), (a7, .inl (cI, 1143, .inl (zA nw))), (a8, .inl (cZ, 2, .inl (zA ik))), (a9, .inl (cI, 9, .inl (zA ((fun _ => 0))))), (a10, .inl (cI, 9, .inl (zA ra))), (a11, .inl (cI, 9, .inl (zA bg))), (a12, .inl (cI, 4, .inl (zA to))), (a13, .inl (cI, 200, .inl (zA cd))), (a14, .inl (cI, 9, .inl (zA fi))), (a15, .inl (cI, 9, .inl (zA tsz))), (a16, .inl (cI, 9, .inl (zA tcm))), (a17, .inl (cI, 10, .inl (zA mg)))] := hD
        rw [← hQQ]
        exact zw_vret hx hb hr hlocks () rfl trivial hP hS dX6_fromBeginning_26
      · refine lv_aload_n hx hb dX6_fromBeginning_8 rfl (lv_at hl 0 rfl) ?_
        refine va_get (D := (dC, dI)) (ci := 5) (v := .ref a9) (C := RX6) (T := TX6) (N := 28) hx hb hts in_X6 hown hK hP 0 rfl rfl 15 (by decide) w_1 (fun _ h9 => h9) rfl dX6_fromBeginning_9 ?_
        refine lv_iload_n hx hb dX6_fromBeginning_12 rfl (lv_at hl 2 rfl) ?_
        refine zv_iconst hx hb dX6_fromBeginning_13 ?_
        refine zv_iast (ws' := [(a0, .inr (5, [.long mtr, .ref a1, .int (zI ty), .ref a2, .ref a3, .ref a4, .ref a5, .ref a6, .int (zI mat), .int (zI mst), .int (zI mso), .int (zI mva), .int (zI mfa), .ref a7, .ref a8, .ref a9, .int (zI mlo), .ref a10, .int (zI rm), .ref a11, .ref a12, .int (zI tm), .ref a13, .ref a14, .ref a15, .ref a16, .int (zI tmy), .ref a17])), (a1, .inl (cB, 200, .inl (zA tx))), (a2, .inl (cI, 2, .inl (zA pa))), (a3, .inl (cI, 18, .inl (zA ms))), (a4, .inl (cI, 18, .inl (zA ml))), (a5, .inl (cI, 18, .inl (zA mr))), (a6, .inl (cI, 18, .inl (zA mt))), (a7, .inl (cI, 1143, .inl (zA nw))), (a8, .inl (cZ, 2, .inl (zA ik))), (a9, .inl (cI, 9, .inl (zA (zu cur i 0)))), (a10, .inl (cI, 9, .inl (zA ra))), (a11, .inl (cI, 9, .inl (zA bg))), (a12, .inl (cI, 4, .inl (zA to))), (a13, .inl (cI, 200, .inl (zA cd))), (a14, .inl (cI, 9, .inl (zA fi))), (a15, .inl (cI, 9, .inl (zA tsz))), (a16, .inl (cI, 9, .inl (zA tcm))), (a17, .inl (cI, 10, .inl (zA mg)))]) hx hb hK hP hD hS 9 0 rfl rfl (by omega) rfl dX6_fromBeginning_14 (fun H locs hP hD hS => ?_)
        refine zv_iinc (k := 2) (a := i) (n := 1) (lv' := [(2, .int (zI (i + 1))), (0, .ref a0), (1, .int (zI v))]) hx hb dX6_fromBeginning_15 hl rfl (by decide) rfl (fun ls hl => ?_)
        refine lv_goto (tgt := 2) hx hb dX6_fromBeginning_18 (by decide) ?_
        exact ih2 (i + 1) (zu cur i 0) (by omega) (by omega) (by intro j h0 h1; unfold zu; split; rfl; exact hc j h0 (by omega)) _ _ hP hD hS _ (lv_sub hl [1, 2, 0] rfl)
  refine zv_iconst hx hb dX6_fromBeginning_0 ?_
  refine lv_istore_n (lv' := [(2, .int (zI 0)), (0, .ref a0), (1, .int (zI v))]) hx hb dX6_fromBeginning_1 rfl hl (by decide) rfl (fun ls hl => ?_)
  exact cut2 _ 0 sd (Nat.lt_succ_self _) (by omega) (by intro j h0 h1; omega) _ _ hP hD hS _ (lv_sub hl [1, 2, 0] rfl)
set_option maxHeartbeats 4000000 in
set_option maxRecDepth 100000 in
theorem c_X6_isAsNow (l : Launch) (dC : Nat → ClassId) (dI : Nat → Nat → Nat) (cI cB cZ : ClassId) (a0 : Nat) (a1 : Nat) (a2 : Nat) (a3 : Nat) (a4 : Nat) (a5 : Nat) (a6 : Nat) (a7 : Nat) (a8 : Nat) (a9 : Nat) (a10 : Nat) (a11 : Nat) (a12 : Nat) (a13 : Nat) (a14 : Nat) (a15 : Nat) (a16 : Nat) (a17 : Nat) (mtr : Int64) (tx : Int → Int) (ty : Int) (pa : Int → Int) (ms : Int → Int) (ml : Int → Int) (mr : Int → Int) (mt : Int → Int) (mat : Int) (mst : Int) (mso : Int) (mva : Int) (mfa : Int) (nw : Int → Int) (ik : Int → Int) (sd : Int → Int) (mlo : Int) (ra : Int → Int) (rm : Int) (bg : Int → Int) (to : Int → Int) (tm : Int) (cd : Int → Int) (fi : Int → Int) (tsz : Int → Int) (tcm : Int → Int) (tmy : Int) (mg : Int → Int) (hp : 0 ≤ pa 0 ∧ pa 0 ≤ 9) (hr1 : ∀ j : Int, 0 ≤ j → j < pa 0 → (0 ≤ sd j ∧ sd j ≤ 7) ∧ 0 ≤ nw j ∧ nw j ≤ 7) : MetR l yX6_isAsNow wsX6_isAsNow ({ frames := 0, cells := 0, slots := 0, locals := 0 }) (dC, dI) vwCl (zT cI cB cZ) zN [(a0, .inr (5, [.long mtr, .ref a1, .int (zI ty), .ref a2, .ref a3, .ref a4, .ref a5, .ref a6, .int (zI mat), .int (zI mst), .int (zI mso), .int (zI mva), .int (zI mfa), .ref a7, .ref a8, .ref a9, .int (zI mlo), .ref a10, .int (zI rm), .ref a11, .ref a12, .int (zI tm), .ref a13, .ref a14, .ref a15, .ref a16, .int (zI tmy), .ref a17])), (a1, .inl (cB, 200, .inl (zA tx))), (a2, .inl (cI, 2, .inl (zA pa))), (a3, .inl (cI, 18, .inl (zA ms))), (a4, .inl (cI, 18, .inl (zA ml))), (a5, .inl (cI, 18, .inl (zA mr))), (a6, .inl (cI, 18, .inl (zA mt))), (a7, .inl (cI, 1143, .inl (zA nw))), (a8, .inl (cZ, 2, .inl (zA ik))), (a9, .inl (cI, 9, .inl (zA sd))), (a10, .inl (cI, 9, .inl (zA ra))), (a11, .inl (cI, 9, .inl (zA bg))), (a12, .inl (cI, 4, .inl (zA to))), (a13, .inl (cI, 200, .inl (zA cd))), (a14, .inl (cI, 9, .inl (zA fi))), (a15, .inl (cI, 9, .inl (zA tsz))), (a16, .inl (cI, 9, .inl (zA tcm))), (a17, .inl (cI, 10, .inl (zA mg)))] [.ref a0] (zI (bZ (asN sd nw (pa 0).toNat = true))) := by
  refine MetR.intro (cc := cX6_isAsNow) (maxL := 3) (ret := (some .boolean)) (by decide) rfl (Nat.le_of_ble_eq_true rfl) ?_
  intro p e s m args below meth c hx hb hr hlocks hml hts hown hP hK hE ls hl
  have hown : s.vm.findClass RX6 = some m.cls := hown
  have hl : lv_has ls 3 [(0, .ref a0)] := hl
  generalize hRM : ({ frames := 0, cells := 0, slots := 0, locals := 0 } : Room) = RM
  generalize hQQ : MQ below (vp_Si (fun r => r = zI (bZ (asN sd nw (pa 0).toNat = true)))) args s 0 0 (fun _ => False) = QQ
  have in_X6 : ∀ w ∈ wsX60, w ∈ wsX6_isAsNow := by decide +kernel
  have w_0 := hts (.fieldLink RX6 13 "WallMarblesModel" "parts" "[I") (by decide +kernel)
  have w_1 := hts (.fieldLink RX6 36 "WallMarblesModel" "stands" "[I") (by decide +kernel)
  have w_2 := hts (.fieldLink RX6 29 "WallMarblesModel" "now" "[I") (by decide +kernel)
  have cut4 : ∀ (nM : Nat) (i : Int) (is : Int),  ((pa 0 - i).toNat) < nM → (0 ≤ i ∧ i ≤ pa 0) → (is = bZ (asN sd nw i.toNat = true)) → ∀ ls : Array Slot, lv_has ls 3 [(0, .ref a0), (1, .int (zI is)), (2, .int (zI i))] → W p l e RM s m args below meth c s.heap [] 0 0 QQ (F0 m 4 ls []) := by
    intro nM
    induction nM with
    | zero => intro i is hmu; exact absurd hmu (Nat.not_lt_zero _)
    | succ nM ih4 =>
      intro i is hmu hi hc ls hl
      have his : 0 ≤ is ∧ is ≤ 1 := by rw [hc]; exact bZ_rng _
      refine lv_iload_n hx hb dX6_isAsNow_4 rfl (lv_at hl 2 rfl) ?_
      refine lv_aload_n hx hb dX6_isAsNow_5 rfl (lv_at hl 0 rfl) ?_
      refine va_get (D := (dC, dI)) (ci := 5) (v := .ref a2) (C := RX6) (T := TX6) (N := 28) hx hb hts in_X6 hown hK hP 0 rfl rfl 3 (by decide) w_0 (fun _ h9 => h9) rfl dX6_isAsNow_6 ?_
      refine zv_iconst hx hb dX6_isAsNow_9 ?_
      refine zv_iald hx hb hK hP 2 0 rfl rfl (by omega) dX6_isAsNow_10 ?_
      refine zv_icmp_ge (tgt := 45) hx hb (by omega) (by omega) dX6_isAsNow_11 (by decide) (fun c_11 => ?_) (fun c_11 => ?_)
      · refine lv_iload_n hx hb dX6_isAsNow_45 rfl (lv_at hl 1 rfl) ?_
        rw [hc, show i = pa 0 by omega]
        rw [← hQQ]
        exact zr_zret hx hb hr hlocks (by first | exact z_nar_bool | rfl) (congrArg zI (show bZ (asN sd nw (pa 0).toNat = true) = bZ (asN sd nw (pa 0).toNat = true) from by first | rfl | omega | exact (bZ_t (by omega)).symm | exact (bZ_f (by omega)).symm)) dX6_isAsNow_46
      · refine lv_iload_n hx hb dX6_isAsNow_14 rfl (lv_at hl 1 rfl) ?_
        refine zv_if_eq (tgt := 37) hx hb (by omega) dX6_isAsNow_15 (by decide) (fun c_15 => ?_) (fun c_15 => ?_)
        · refine zv_iconst hx hb dX6_isAsNow_37 ?_
          refine lv_istore_n (lv' := [(1, .int (zI 0)), (0, .ref a0), (2, .int (zI i))]) hx hb dX6_isAsNow_38 rfl hl (by decide) rfl (fun ls hl => ?_)
          refine zv_iinc (k := 2) (a := i) (n := 1) (lv' := [(2, .int (zI (i + 1))), (1, .int (zI 0)), (0, .ref a0)]) hx hb dX6_isAsNow_39 hl rfl (by decide) rfl (fun ls hl => ?_)
          refine lv_goto (tgt := 4) hx hb dX6_isAsNow_42 (by decide) ?_
          exact ih4 (i + 1) 0 (by omega) (by omega) (by first | exact (asN_t (by omega) (by rw [← hc]; exact c_15) c_30).symm | exact (asN_f1 (by omega) (by rw [← hc]; exact c_15)).symm | exact (asN_f2 (by omega) c_30).symm) _ (lv_sub hl [2, 1, 0] rfl)
        · have z1 := hr1 i (by omega) (by omega)
          refine lv_aload_n hx hb dX6_isAsNow_18 rfl (lv_at hl 0 rfl) ?_
          refine va_get (D := (dC, dI)) (ci := 5) (v := .ref a9) (C := RX6) (T := TX6) (N := 28) hx hb hts in_X6 hown hK hP 0 rfl rfl 15 (by decide) w_1 (fun _ h9 => h9) rfl dX6_isAsNow_19 ?_
          refine lv_iload_n hx hb dX6_isAsNow_22 rfl (lv_at hl 2 rfl) ?_
          refine zv_iald hx hb hK hP 9 0 rfl rfl (by omega) dX6_isAsNow_23 ?_
          refine lv_aload_n hx hb dX6_isAsNow_24 rfl (lv_at hl 0 rfl) ?_
          refine va_get (D := (dC, dI)) (ci := 5) (v := .ref a7) (C := RX6) (T := TX6) (N := 28) hx hb hts in_X6 hown hK hP 0 rfl rfl 13 (by decide) w_2 (fun _ h9 => h9) rfl dX6_isAsNow_25 ?_
          refine lv_iload_n hx hb dX6_isAsNow_28 rfl (lv_at hl 2 rfl) ?_
          refine zv_iald hx hb hK hP 7 0 rfl rfl (by omega) dX6_isAsNow_29 ?_
          refine zv_icmp_ne (tgt := 37) hx hb (by omega) (by omega) dX6_isAsNow_30 (by decide) (fun c_30 => ?_) (fun c_30 => ?_)
          · refine zv_iconst hx hb dX6_isAsNow_37 ?_
            refine lv_istore_n (lv' := [(1, .int (zI 0)), (0, .ref a0), (2, .int (zI i))]) hx hb dX6_isAsNow_38 rfl hl (by decide) rfl (fun ls hl => ?_)
            refine zv_iinc (k := 2) (a := i) (n := 1) (lv' := [(2, .int (zI (i + 1))), (1, .int (zI 0)), (0, .ref a0)]) hx hb dX6_isAsNow_39 hl rfl (by decide) rfl (fun ls hl => ?_)
            refine lv_goto (tgt := 4) hx hb dX6_isAsNow_42 (by decide) ?_
            exact ih4 (i + 1) 0 (by omega) (by omega) (by first | exact (asN_t (by omega) (by rw [← hc]; exact c_15) c_30).symm | exact (asN_f1 (by omega) (by rw [← hc]; exact c_15)).symm | exact (asN_f2 (by omega) c_30).symm) _ (lv_sub hl [2, 1, 0] rfl)
          · refine zv_iconst hx hb dX6_isAsNow_33 ?_
            refine lv_goto (tgt := 38) hx hb dX6_isAsNow_34 (by decide) ?_
            refine lv_istore_n (lv' := [(1, .int (zI 1)), (0, .ref a0), (2, .int (zI i))]) hx hb dX6_isAsNow_38 rfl hl (by decide) rfl (fun ls hl => ?_)
            refine zv_iinc (k := 2) (a := i) (n := 1) (lv' := [(2, .int (zI (i + 1))), (1, .int (zI 1)), (0, .ref a0)]) hx hb dX6_isAsNow_39 hl rfl (by decide) rfl (fun ls hl => ?_)
            refine lv_goto (tgt := 4) hx hb dX6_isAsNow_42 (by decide) ?_
            exact ih4 (i + 1) 1 (by omega) (by omega) (by first | exact (asN_t (by omega) (by rw [← hc]; exact c_15) c_30).symm | exact (asN_f1 (by omega) (by rw [← hc]; exact c_15)).symm | exact (asN_f2 (by omega) c_30).symm) _ (lv_sub hl [2, 1, 0] rfl)
  refine zv_iconst hx hb dX6_isAsNow_0 ?_
  refine lv_istore_n (lv' := [(1, .int (zI 1)), (0, .ref a0)]) hx hb dX6_isAsNow_1 rfl hl (by decide) rfl (fun ls hl => ?_)
  refine zv_iconst hx hb dX6_isAsNow_2 ?_
  refine lv_istore_n (lv' := [(2, .int (zI 0)), (1, .int (zI 1)), (0, .ref a0)]) hx hb dX6_isAsNow_3 rfl hl (by decide) rfl (fun ls hl => ?_)
  exact cut4 _ 0 1 (Nat.lt_succ_self _) (by omega) (by rfl) _ (lv_sub hl [2, 1, 0] rfl)
