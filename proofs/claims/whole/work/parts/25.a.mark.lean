/-! kinds' trace -/
def kTr (k : Int) : Int := if k = 0 then 1 else if k = 1 then 10 else if k = 2 then 100 else if k = 3 then 1000 else if k = 4 then 10000 else 100000
def kTl (k : Int) : Int64 := if k = 0 then 1 else if k = 1 then 10 else if k = 2 then 100 else if k = 3 then 1000 else if k = 4 then 10000 else 100000
theorem k6 {k : Int} (h : 0 ≤ k ∧ k ≤ 5) : k = 0 ∨ k = 1 ∨ k = 2 ∨ k = 3 ∨ k = 4 ∨ k = 5 := by omega
theorem kTr_z {k : Int} (h : 0 ≤ k ∧ k ≤ 5) : zTr k.toNat = zI (kTr k) := by
  rcases k6 h with rfl | rfl | rfl | rfl | rfl | rfl <;> decide +kernel
theorem kTl_z {k : Int} (h : 0 ≤ k ∧ k ≤ 5) : (zI (kTr k)).toInt64 = kTl k := by
  rcases k6 h with rfl | rfl | rfl | rfl | rfl | rfl <;> decide +kernel
theorem kTl_a {tr : Int64} {k j : Int} (h : 1 ≤ k ∧ k ≤ 5) (h2 : (j = 0 ∧ (k = 1 ∨ k = 2 ∨ k = 5)) ∨ (j = 1 ∧ k = 3) ∨ (j = 2 ∧ k = 4)) : tr + kTl k + mkT j = tr + mkT k := by
  rw [Int64.add_assoc]
  congr 1
  rcases h2 with ⟨rfl, rfl | rfl | rfl⟩ | ⟨rfl, rfl⟩ | ⟨rfl, rfl⟩ <;> decide +kernel
set_option maxHeartbeats 4000000 in
set_option maxRecDepth 100000 in
theorem c_X5_markBody0 (l : Launch) (dC : Nat → ClassId) (dI : Nat → Nat → Nat) (cI cB cZ : ClassId) (w0 : Nat) (x0 : Nat) (h0 : Nat) (g0 : Nat) (p0 : Nat) (q0 : Nat) (r0 : Nat) (fk : Int) (sk : Int) (t0 : Nat) (b1 : Nat) (b2 : Nat) (tr : Int64) (h1 : Nat) (h2 : Nat) (h3 : Nat) (h4 : Nat) (n : Int) (so : Int → Int) (le : Int → Int) (ri : Int → Int) (ti : Int → Int) (p1 : Nat) (p2 : Nat) (st : Int → Int) (lo : Int) (li : Int) (kn : Int) (al : Int → Int) (ah : Int → Int) (adK : Nat → Nat) (adV : Nat → Nat) (kt : Nat) (kd : Int) (k : Int) (hh : hOk n so le ri ti) (hs : sOk n so ti st) (hk : -2147483648 ≤ k ∧ k ≤ 2147483647) (hkk : 0 ≤ k ∧ k < n) (hkd : kd = 0) (hli : -2147483648 ≤ li ∧ li ≤ 2147483647) : MetX (S := (Int64)) l yX5_markBody wsX5_markBody ({ frames := 1, cells := 0, slots := 0, locals := 21 }) (dC, dI) vwCl (zT cI cB cZ) (zX adK adV kt) [(w0, .inr (4, [.ref x0, .ref h0, .ref g0, .ref p0, .ref q0, .ref r0, .int (zI fk), .int (zI sk), .ref t0, .ref b1, .ref b2, .long tr])), (h0, .inr (0, [.int (zI n), .ref h1, .ref h2, .ref h3, .ref h4])), (h1, .inl (cI, 9, .inl (zA so))), (h2, .inl (cI, 9, .inl (zA le))), (h3, .inl (cI, 9, .inl (zA ri))), (h4, .inl (cI, 9, .inl (zA ti))), (p0, .inr (1, [.int (zI (pk st)), .int (zI lo), .int (zI li), .int (zI kn), .ref p1, .ref p2])), (p1, .inl (cI, 9, .inl (zA al))), (p2, .inl (cI, 20, .inl (zA ah)))] [.ref w0, .int (zI kd), .int (zI k)] (fun u => some (.int (zI (q_mark ti st al li kd k)))) (fun u => [(w0, .inr (4, [.ref x0, .ref h0, .ref g0, .ref p0, .ref q0, .ref r0, .int (zI fk), .int (zI sk), .ref t0, .ref b1, .ref b2, .long u])), (h0, .inr (0, [.int (zI n), .ref h1, .ref h2, .ref h3, .ref h4])), (h1, .inl (cI, 9, .inl (zA so))), (h2, .inl (cI, 9, .inl (zA le))), (h3, .inl (cI, 9, .inl (zA ri))), (h4, .inl (cI, 9, .inl (zA ti))), (p0, .inr (1, [.int (zI (pk st)), .int (zI lo), .int (zI li), .int (zI kn), .ref p1, .ref p2])), (p1, .inl (cI, 9, .inl (zA al))), (p2, .inl (cI, 20, .inl (zA ah)))]) (fun u => (u = tr + mkT kd)) := by
  refine MetX.intro (cc := cX5_markBody) (maxL := 3) (ret := (some .int)) (by decide) rfl (Nat.le_of_ble_eq_true rfl) ?_
  intro p e s m args below meth c A hx hb hr hlocks hml hts hown hP hK hD hS hA hE ls hl
  have hown : s.vm.findClass RX5 = some m.cls := hown
  have hEX := hE
  have hE : zN s := hEX.1
  have hl : lv_has ls 3 [(0, .ref w0), (1, .int (zI kd)), (2, .int (zI k))] := hl
  generalize hRM : ({ frames := 1, cells := 0, slots := 0, locals := 21 } : Room) = RM
  generalize hQQ : MQ below (QW (S := (Int64)) (dC, dI) vwCl A (fun u => some (.int (zI (q_mark ti st al li kd k)))) (fun u => [(w0, .inr (4, [.ref x0, .ref h0, .ref g0, .ref p0, .ref q0, .ref r0, .int (zI fk), .int (zI sk), .ref t0, .ref b1, .ref b2, .long u])), (h0, .inr (0, [.int (zI n), .ref h1, .ref h2, .ref h3, .ref h4])), (h1, .inl (cI, 9, .inl (zA so))), (h2, .inl (cI, 9, .inl (zA le))), (h3, .inl (cI, 9, .inl (zA ri))), (h4, .inl (cI, 9, .inl (zA ti))), (p0, .inr (1, [.int (zI (pk st)), .int (zI lo), .int (zI li), .int (zI kn), .ref p1, .ref p2])), (p1, .inl (cI, 9, .inl (zA al))), (p2, .inl (cI, 20, .inl (zA ah)))]) (fun u => (u = tr + mkT kd))) args s 0 0 A = QQ
  have in_X1 : ∀ w ∈ wsX10, w ∈ wsX5_markBody := by decide +kernel
  have in_X5 : ∀ w ∈ wsX50, w ∈ wsX5_markBody := by decide +kernel
  have w_0 := hts (.fieldLink RX5 209 "WallMarbles" "traced" "J") (by decide +kernel)
  have w_1 := hts (.fieldLink RX5 223 "WallMarbles" "KIND_TRACE" "[I") (by decide +kernel)
  have w_2 := hts (.fieldLink RX5 29 "WallMarbles" "present" "LWallMarbles$Present;") (by decide +kernel)
  have n_98 := va_Nw.use (A := args) rfl (zN_3 hE)
  have hn := hh.1
  refine lv_iload_n hx hb dX5_markBody_0 rfl (lv_at hl 1 rfl) ?_
  refine zv_if_lt (tgt := 9) hx hb (by omega) dX5_markBody_1 (by decide) (fun c_1 => ?_) (fun c_1 => ?_)
  · exfalso; omega
  · refine lv_iload_n hx hb dX5_markBody_4 rfl (lv_at hl 1 rfl) ?_
    refine zv_iconst hx hb dX5_markBody_5 ?_
    refine zv_icmp_le (tgt := 11) hx hb (by omega) (by omega) dX5_markBody_6 (by decide) (fun c_6 => ?_) (fun c_6 => ?_)
    · refine lv_aload_n hx hb dX5_markBody_11 rfl (lv_at hl 0 rfl) ?_
      refine lv_dup hx hb dX5_markBody_12 rfl ?_
      refine va_get (D := (dC, dI)) (ci := 4) (v := .long tr) (C := RX5) (T := TX5) (N := 12) hx hb hts in_X5 hown hK hP 0 rfl rfl 11 (by decide) w_0 (fun _ h9 => h9) rfl dX5_markBody_13 ?_
      refine va_gets hx hb hEX.2.2.2.2.2.1 hS hown w_1 (fun _ h => h) dX5_markBody_16 ?_
      refine lv_iload_n hx hb dX5_markBody_19 rfl (lv_at hl 1 rfl) ?_
      refine va_ti (v := .int (zI (kTr kd))) hx hb hEX.2.2.2.2.2.2 hS (zI_in ⟨by omega, by omega, by omega⟩) (by show Value.int (zTr _) = _; rw [zI_cl (by omega)]; exact congrArg Value.int (kTr_z (by omega))) dX5_markBody_20 ?_
      refine lv_i2l (v := kTl kd) hx hb dX5_markBody_21 (by exact kTl_z (by omega)) ?_
      refine lv_ladd hx hb dX5_markBody_22 ?_
      refine va_put (D := (dC, dI)) (ci := 4) (v := .long (tr + (kTl kd))) (ty := .long) (C := RX5) (T := TX5) (N := 12) hx hb hts in_X5 tyX5 tyX5_ok nmX5 hown hK hP hD hS 0 rfl rfl 11 (by decide) w_0 (fun _ h9 => h9) rfl (by decide +kernel) rfl rfl (Nat.le_of_ble_eq_true rfl) dX5_markBody_23 (fun H locs hP hD hS => ?_)
      have hP : va_P (dC, dI) vwCl [(w0, .inr (4, [.ref x0, .ref h0, .ref g0, .ref p0, .ref q0, .ref r0, .int (zI fk), .int (zI sk), .ref t0, .ref b1, .ref b2, .long (tr + (kTl kd))])), (h0, .inr (0, [.int (zI n), .ref h1, .ref h2, .ref h3, .ref h4])), (h1, .inl (cI, 9, .inl (zA so))), (h2, .inl (cI, 9, .inl (zA le))), (h3, .inl (cI, 9, .inl (zA ri))), (h4, .inl (cI, 9, .inl (zA ti))), (p0, .inr (1, [.int (zI (pk st)), .int (zI lo), .int (zI li), .int (zI kn), .ref p1, .ref p2])), (p1, .inl (cI, 9, .inl (zA al))), (p2, .inl (cI, 20, .inl (zA ah)))] H := hP
      have hD : va_D A [(w0, .inr (4, [.ref x0, .ref h0, .ref g0, .ref p0, .ref q0, .ref r0, .int (zI fk), .int (zI sk), .ref t0, .ref b1, .ref b2, .long (tr + (kTl kd))])), (h0, .inr (0, [.int (zI n), .ref h1, .ref h2, .ref h3, .ref h4])), (h1, .inl (cI, 9, .inl (zA so))), (h2, .inl (cI, 9, .inl (zA le))), (h3, .inl (cI, 9, .inl (zA ri))), (h4, .inl (cI, 9, .inl (zA ti))), (p0, .inr (1, [.int (zI (pk st)), .int (zI lo), .int (zI li), .int (zI kn), .ref p1, .ref p2])), (p1, .inl (cI, 9, .inl (zA al))), (p2, .inl (cI, 20, .inl (zA ah)))] := hD
      refine lv_iload_n hx hb dX5_markBody_26 rfl (lv_at hl 1 rfl) ?_
      rcases (show kd = 1 ∨ kd = 2 ∨ kd = 3 ∨ kd = 4 ∨ kd = 5 ∨ (kd < 1 ∨ 5 < kd) by omega) with c_27 | c_27 | c_27 | c_27 | c_27 | c_27
      · exfalso; omega
      · exfalso; omega
      · exfalso; omega
      · exfalso; omega
      · exfalso; omega
      · refine zv_tableOut (tgt := 125) hx hb (by omega) c_27 dX5_markBody_27 (by decide) ?_
        refine lv_aload_n hx hb dX5_markBody_125 rfl (lv_at hl 0 rfl) ?_
        refine va_get (D := (dC, dI)) (ci := 4) (v := .ref p0) (C := RX5) (T := TX5) (N := 12) hx hb hts in_X5 hown hK hP 0 rfl rfl 3 (by decide) w_2 (fun _ h9 => h9) rfl dX5_markBody_126 ?_
        refine va_getN (D := (dC, dI)) (ci := 1) (v := .int (zI (pk st))) (C := RX1) (T := TX1) (N := 6) hx hb hts in_X1 hown hK hP 6 rfl rfl 0 (by decide) n_98 (fun _ h9 => h9) rfl dX5_markBody_129 ?_
        refine lv_iload_n hx hb dX5_markBody_132 rfl (lv_at hl 2 rfl) ?_
        refine zv_callRS (As := [.int (zI (pk st)), .int (zI k)]) (rest := []) ⟨hx, hb, hml, hown, hts⟩ (c_X2_standAt l dC dI cI cB cZ st k (by exact sOk_s7 hh hs) (by omega)) (va_cwS 2 hts gX5_markBody_X2_standAt rfl rfl rfl (by decide +kernel) ⟨by rw [← hRM]; first | decide | (dsimp only; omega), by rw [← hRM]; first | decide | (dsimp only; omega)⟩) hP hK [] rfl [0, 1, 2] rfl zN_bl (zN_go hE) rfl hl.1 rfl (Nat.le_of_ble_eq_true rfl) dX5_markBody_133 ⟨Nat.zero_le _, Nat.zero_le _⟩ ?_
        rw [← hQQ]
        exact zw_iret hx hb hr hlocks ((tr + (kTl kd))) (congrArg (fun z => some (Value.int (zI z))) (show q_mark ti st al li kd k = st k from by unfold q_mark; rw [if_pos hkd])) (by rw [hkd]; rfl) hP hS dX5_markBody_136
    · exfalso; omega
set_option maxHeartbeats 4000000 in
set_option maxRecDepth 100000 in
theorem c_X5_markBody1 (l : Launch) (dC : Nat → ClassId) (dI : Nat → Nat → Nat) (cI cB cZ : ClassId) (w0 : Nat) (x0 : Nat) (h0 : Nat) (g0 : Nat) (p0 : Nat) (q0 : Nat) (r0 : Nat) (fk : Int) (sk : Int) (t0 : Nat) (b1 : Nat) (b2 : Nat) (tr : Int64) (h1 : Nat) (h2 : Nat) (h3 : Nat) (h4 : Nat) (n : Int) (so : Int → Int) (le : Int → Int) (ri : Int → Int) (ti : Int → Int) (p1 : Nat) (p2 : Nat) (st : Int → Int) (lo : Int) (li : Int) (kn : Int) (al : Int → Int) (ah : Int → Int) (adK : Nat → Nat) (adV : Nat → Nat) (kt : Nat) (kd : Int) (k : Int) (hh : hOk n so le ri ti) (hs : sOk n so ti st) (hk : -2147483648 ≤ k ∧ k ≤ 2147483647) (hkk : 0 ≤ k ∧ k < n) (hkd : kd = 1 ∨ kd = 2 ∨ kd = 5) (hli : -2147483648 ≤ li ∧ li ≤ 2147483647) : MetX (S := (Int64)) l yX5_markBody wsX5_markBody ({ frames := 2, cells := 0, slots := 0, locals := 43 }) (dC, dI) vwCl (zT cI cB cZ) (zX adK adV kt) [(w0, .inr (4, [.ref x0, .ref h0, .ref g0, .ref p0, .ref q0, .ref r0, .int (zI fk), .int (zI sk), .ref t0, .ref b1, .ref b2, .long tr])), (h0, .inr (0, [.int (zI n), .ref h1, .ref h2, .ref h3, .ref h4])), (h1, .inl (cI, 9, .inl (zA so))), (h2, .inl (cI, 9, .inl (zA le))), (h3, .inl (cI, 9, .inl (zA ri))), (h4, .inl (cI, 9, .inl (zA ti))), (p0, .inr (1, [.int (zI (pk st)), .int (zI lo), .int (zI li), .int (zI kn), .ref p1, .ref p2])), (p1, .inl (cI, 9, .inl (zA al))), (p2, .inl (cI, 20, .inl (zA ah)))] [.ref w0, .int (zI kd), .int (zI k)] (fun u => some (.int (zI (q_mark ti st al li kd k)))) (fun u => [(w0, .inr (4, [.ref x0, .ref h0, .ref g0, .ref p0, .ref q0, .ref r0, .int (zI fk), .int (zI sk), .ref t0, .ref b1, .ref b2, .long u])), (h0, .inr (0, [.int (zI n), .ref h1, .ref h2, .ref h3, .ref h4])), (h1, .inl (cI, 9, .inl (zA so))), (h2, .inl (cI, 9, .inl (zA le))), (h3, .inl (cI, 9, .inl (zA ri))), (h4, .inl (cI, 9, .inl (zA ti))), (p0, .inr (1, [.int (zI (pk st)), .int (zI lo), .int (zI li), .int (zI kn), .ref p1, .ref p2])), (p1, .inl (cI, 9, .inl (zA al))), (p2, .inl (cI, 20, .inl (zA ah)))]) (fun u => (u = tr + mkT kd)) := by
  refine MetX.intro (cc := cX5_markBody) (maxL := 3) (ret := (some .int)) (by decide) rfl (Nat.le_of_ble_eq_true rfl) ?_
  intro p e s m args below meth c A hx hb hr hlocks hml hts hown hP hK hD hS hA hE ls hl
  have hown : s.vm.findClass RX5 = some m.cls := hown
  have hEX := hE
  have hE : zN s := hEX.1
  have hl : lv_has ls 3 [(0, .ref w0), (1, .int (zI kd)), (2, .int (zI k))] := hl
  generalize hRM : ({ frames := 2, cells := 0, slots := 0, locals := 43 } : Room) = RM
  generalize hQQ : MQ below (QW (S := (Int64)) (dC, dI) vwCl A (fun u => some (.int (zI (q_mark ti st al li kd k)))) (fun u => [(w0, .inr (4, [.ref x0, .ref h0, .ref g0, .ref p0, .ref q0, .ref r0, .int (zI fk), .int (zI sk), .ref t0, .ref b1, .ref b2, .long u])), (h0, .inr (0, [.int (zI n), .ref h1, .ref h2, .ref h3, .ref h4])), (h1, .inl (cI, 9, .inl (zA so))), (h2, .inl (cI, 9, .inl (zA le))), (h3, .inl (cI, 9, .inl (zA ri))), (h4, .inl (cI, 9, .inl (zA ti))), (p0, .inr (1, [.int (zI (pk st)), .int (zI lo), .int (zI li), .int (zI kn), .ref p1, .ref p2])), (p1, .inl (cI, 9, .inl (zA al))), (p2, .inl (cI, 20, .inl (zA ah)))]) (fun u => (u = tr + mkT kd))) args s 0 0 A = QQ
  have in_X5 : ∀ w ∈ wsX50, w ∈ wsX5_markBody := by decide +kernel
  have w_0 := hts (.fieldLink RX5 209 "WallMarbles" "traced" "J") (by decide +kernel)
  have w_1 := hts (.fieldLink RX5 223 "WallMarbles" "KIND_TRACE" "[I") (by decide +kernel)
  have w_2 := hts (.fieldLink RX5 19 "WallMarbles" "built" "LWallMarbles$House;") (by decide +kernel)
  have w_3 := hts (.fieldLink RX5 29 "WallMarbles" "present" "LWallMarbles$Present;") (by decide +kernel)
  have hn := hh.1
  refine lv_iload_n hx hb dX5_markBody_0 rfl (lv_at hl 1 rfl) ?_
  refine zv_if_lt (tgt := 9) hx hb (by omega) dX5_markBody_1 (by decide) (fun c_1 => ?_) (fun c_1 => ?_)
  · exfalso; omega
  · refine lv_iload_n hx hb dX5_markBody_4 rfl (lv_at hl 1 rfl) ?_
    refine zv_iconst hx hb dX5_markBody_5 ?_
    refine zv_icmp_le (tgt := 11) hx hb (by omega) (by omega) dX5_markBody_6 (by decide) (fun c_6 => ?_) (fun c_6 => ?_)
    · refine lv_aload_n hx hb dX5_markBody_11 rfl (lv_at hl 0 rfl) ?_
      refine lv_dup hx hb dX5_markBody_12 rfl ?_
      refine va_get (D := (dC, dI)) (ci := 4) (v := .long tr) (C := RX5) (T := TX5) (N := 12) hx hb hts in_X5 hown hK hP 0 rfl rfl 11 (by decide) w_0 (fun _ h9 => h9) rfl dX5_markBody_13 ?_
      refine va_gets hx hb hEX.2.2.2.2.2.1 hS hown w_1 (fun _ h => h) dX5_markBody_16 ?_
      refine lv_iload_n hx hb dX5_markBody_19 rfl (lv_at hl 1 rfl) ?_
      refine va_ti (v := .int (zI (kTr kd))) hx hb hEX.2.2.2.2.2.2 hS (zI_in ⟨by omega, by omega, by omega⟩) (by show Value.int (zTr _) = _; rw [zI_cl (by omega)]; exact congrArg Value.int (kTr_z (by omega))) dX5_markBody_20 ?_
      refine lv_i2l (v := kTl kd) hx hb dX5_markBody_21 (by exact kTl_z (by omega)) ?_
      refine lv_ladd hx hb dX5_markBody_22 ?_
      refine va_put (D := (dC, dI)) (ci := 4) (v := .long (tr + (kTl kd))) (ty := .long) (C := RX5) (T := TX5) (N := 12) hx hb hts in_X5 tyX5 tyX5_ok nmX5 hown hK hP hD hS 0 rfl rfl 11 (by decide) w_0 (fun _ h9 => h9) rfl (by decide +kernel) rfl rfl (Nat.le_of_ble_eq_true rfl) dX5_markBody_23 (fun H locs hP hD hS => ?_)
      have hP : va_P (dC, dI) vwCl [(w0, .inr (4, [.ref x0, .ref h0, .ref g0, .ref p0, .ref q0, .ref r0, .int (zI fk), .int (zI sk), .ref t0, .ref b1, .ref b2, .long (tr + (kTl kd))])), (h0, .inr (0, [.int (zI n), .ref h1, .ref h2, .ref h3, .ref h4])), (h1, .inl (cI, 9, .inl (zA so))), (h2, .inl (cI, 9, .inl (zA le))), (h3, .inl (cI, 9, .inl (zA ri))), (h4, .inl (cI, 9, .inl (zA ti))), (p0, .inr (1, [.int (zI (pk st)), .int (zI lo), .int (zI li), .int (zI kn), .ref p1, .ref p2])), (p1, .inl (cI, 9, .inl (zA al))), (p2, .inl (cI, 20, .inl (zA ah)))] H := hP
      have hD : va_D A [(w0, .inr (4, [.ref x0, .ref h0, .ref g0, .ref p0, .ref q0, .ref r0, .int (zI fk), .int (zI sk), .ref t0, .ref b1, .ref b2, .long (tr + (kTl kd))])), (h0, .inr (0, [.int (zI n), .ref h1, .ref h2, .ref h3, .ref h4])), (h1, .inl (cI, 9, .inl (zA so))), (h2, .inl (cI, 9, .inl (zA le))), (h3, .inl (cI, 9, .inl (zA ri))), (h4, .inl (cI, 9, .inl (zA ti))), (p0, .inr (1, [.int (zI (pk st)), .int (zI lo), .int (zI li), .int (zI kn), .ref p1, .ref p2])), (p1, .inl (cI, 9, .inl (zA al))), (p2, .inl (cI, 20, .inl (zA ah)))] := hD
      refine lv_iload_n hx hb dX5_markBody_26 rfl (lv_at hl 1 rfl) ?_
      rcases (show kd = 1 ∨ kd = 2 ∨ kd = 3 ∨ kd = 4 ∨ kd = 5 ∨ (kd < 1 ∨ 5 < kd) by omega) with c_27 | c_27 | c_27 | c_27 | c_27 | c_27
      · refine zv_tableIn (k := 1) (tgt := 60) hx hb (by omega) c_27 (by omega) dX5_markBody_27 rfl (by decide) ?_
        refine lv_aload_n hx hb dX5_markBody_60 rfl (lv_at hl 0 rfl) ?_
        refine zv_iconst hx hb dX5_markBody_61 ?_
        refine lv_iload_n hx hb dX5_markBody_62 rfl (lv_at hl 2 rfl) ?_
        refine zv_callXV (As := [.int (zI 0), .int (zI k)]) (rest := []) (ws2 := fun u => [(w0, .inr (4, [.ref x0, .ref h0, .ref g0, .ref p0, .ref q0, .ref r0, .int (zI fk), .int (zI sk), .ref t0, .ref b1, .ref b2, .long u])), (h0, .inr (0, [.int (zI n), .ref h1, .ref h2, .ref h3, .ref h4])), (h1, .inl (cI, 9, .inl (zA so))), (h2, .inl (cI, 9, .inl (zA le))), (h3, .inl (cI, 9, .inl (zA ri))), (h4, .inl (cI, 9, .inl (zA ti))), (p0, .inr (1, [.int (zI (pk st)), .int (zI lo), .int (zI li), .int (zI kn), .ref p1, .ref p2])), (p1, .inl (cI, 9, .inl (zA al))), (p2, .inl (cI, 20, .inl (zA ah)))]) ⟨hx, hb, hml, hown, hts⟩ (c_X5_markBody0 l dC dI cI cB cZ w0 x0 h0 g0 p0 q0 r0 fk sk t0 b1 b2 (tr + (kTl kd)) h1 h2 h3 h4 n so le ri ti p1 p2 st lo li kn al ah adK adV kt 0 k (by exact hh) (by exact hs) (by omega) (by omega) (by omega) (by omega)) (cwV 2 hts gX5_markBody_X5_markBody rfl rfl rfl (by decide +kernel) ⟨by rw [← hRM]; first | decide | (dsimp only; omega), by rw [← hRM]; first | decide | (dsimp only; omega)⟩) hP hD hS hA hK [0, 1, 2, 3, 4, 5, 6, 7, 8] rfl (by decide) [0, 1, 2] rfl zX_bl (zX_go hEX hS) (fun _ => rfl) (fun _ => rfl) (q0 := 0) rfl rfl rfl rfl hl.1 rfl (Nat.le_of_ble_eq_true rfl) dX5_markBody_63 ⟨Nat.zero_le _, Nat.zero_le _⟩ (fun u H locs hpo hP hD hS => ?_)
        obtain ⟨tr2_63, rfl⟩ : ∃ z, z = u := ⟨_, rfl⟩
        have hp0_63 : tr2_63 = (tr + (kTl kd)) + mkT 0 := hpo
        have hP : va_P (dC, dI) vwCl [(w0, .inr (4, [.ref x0, .ref h0, .ref g0, .ref p0, .ref q0, .ref r0, .int (zI fk), .int (zI sk), .ref t0, .ref b1, .ref b2, .long tr2_63])), (h0, .inr (0, [.int (zI n), .ref h1, .ref h2, .ref h3, .ref h4])), (h1, .inl (cI, 9, .inl (zA so))), (h2, .inl (cI, 9, .inl (zA le))), (h3, .inl (cI, 9, .inl (zA ri))), (h4, .inl (cI, 9, .inl (zA ti))), (p0, .inr (1, [.int (zI (pk st)), .int (zI lo), .int (zI li), .int (zI kn), .ref p1, .ref p2])), (p1, .inl (cI, 9, .inl (zA al))), (p2, .inl (cI, 20, .inl (zA ah)))] H := hP
        have hD : va_D A [(w0, .inr (4, [.ref x0, .ref h0, .ref g0, .ref p0, .ref q0, .ref r0, .int (zI fk), .int (zI sk), .ref t0, .ref b1, .ref b2, .long tr2_63])), (h0, .inr (0, [.int (zI n), .ref h1, .ref h2, .ref h3, .ref h4])), (h1, .inl (cI, 9, .inl (zA so))), (h2, .inl (cI, 9, .inl (zA le))), (h3, .inl (cI, 9, .inl (zA ri))), (h4, .inl (cI, 9, .inl (zA ti))), (p0, .inr (1, [.int (zI (pk st)), .int (zI lo), .int (zI li), .int (zI kn), .ref p1, .ref p2])), (p1, .inl (cI, 9, .inl (zA al))), (p2, .inl (cI, 20, .inl (zA ah)))] := hD
        refine W.eq (g2 := F0 m 66 ls [.int (zI (q_mark ti st al li 0 k))]) rfl ?_
        refine lv_aload_n hx hb dX5_markBody_66 rfl (lv_at hl 0 rfl) ?_
        refine va_get (D := (dC, dI)) (ci := 4) (v := .ref h0) (C := RX5) (T := TX5) (N := 12) hx hb hts in_X5 hown hK hP 0 rfl rfl 1 (by decide) w_2 (fun _ h9 => h9) rfl dX5_markBody_67 ?_
        refine lv_iload_n hx hb dX5_markBody_70 rfl (lv_at hl 2 rfl) ?_
        refine zv_callRV (As := [.int (zI k)]) (rest := [.int (zI (q_mark ti st al li 0 k))]) ⟨hx, hb, hml, hown, hts⟩ (c_X0_turnOf l dC dI cI cB cZ h0 h1 h2 h3 h4 n so le ri ti k (by omega) (by omega)) (cwV 1 hts gX5_markBody_X0_turnOf rfl rfl rfl (by decide +kernel) ⟨by rw [← hRM]; first | decide | (dsimp only; omega), by rw [← hRM]; first | decide | (dsimp only; omega)⟩) hP hK [1, 2, 3, 4, 5] rfl [0, 1, 2] rfl zN_bl (zN_go hE) (q0 := 0) rfl rfl rfl rfl hl.1 rfl (Nat.le_of_ble_eq_true rfl) dX5_markBody_71 ⟨Nat.zero_le _, Nat.zero_le _⟩ ?_
        rw [show (if 0 ≤ k ∧ k < n then ti k else 0) = ti k from if_pos hkk]
        refine zv_iadd hx hb dX5_markBody_74 ?_
        rw [← hQQ]
        exact zw_iret hx hb hr hlocks (tr2_63) (congrArg (fun z => some (Value.int (zI z))) (show q_mark ti st al li kd k = (q_mark ti st al li 0 k) + (ti k) from by unfold q_mark; (repeat' split) <;> first | rfl | omega)) (by rw [hp0_63]; exact kTl_a (by omega) (by omega)) hP hS dX5_markBody_75
      · refine zv_tableIn (k := 2) (tgt := 76) hx hb (by omega) c_27 (by omega) dX5_markBody_27 rfl (by decide) ?_
        refine lv_aload_n hx hb dX5_markBody_76 rfl (lv_at hl 0 rfl) ?_
        refine zv_iconst hx hb dX5_markBody_77 ?_
        refine lv_iload_n hx hb dX5_markBody_78 rfl (lv_at hl 2 rfl) ?_
        refine zv_callXV (As := [.int (zI 0), .int (zI k)]) (rest := []) (ws2 := fun u => [(w0, .inr (4, [.ref x0, .ref h0, .ref g0, .ref p0, .ref q0, .ref r0, .int (zI fk), .int (zI sk), .ref t0, .ref b1, .ref b2, .long u])), (h0, .inr (0, [.int (zI n), .ref h1, .ref h2, .ref h3, .ref h4])), (h1, .inl (cI, 9, .inl (zA so))), (h2, .inl (cI, 9, .inl (zA le))), (h3, .inl (cI, 9, .inl (zA ri))), (h4, .inl (cI, 9, .inl (zA ti))), (p0, .inr (1, [.int (zI (pk st)), .int (zI lo), .int (zI li), .int (zI kn), .ref p1, .ref p2])), (p1, .inl (cI, 9, .inl (zA al))), (p2, .inl (cI, 20, .inl (zA ah)))]) ⟨hx, hb, hml, hown, hts⟩ (c_X5_markBody0 l dC dI cI cB cZ w0 x0 h0 g0 p0 q0 r0 fk sk t0 b1 b2 (tr + (kTl kd)) h1 h2 h3 h4 n so le ri ti p1 p2 st lo li kn al ah adK adV kt 0 k (by exact hh) (by exact hs) (by omega) (by omega) (by omega) (by omega)) (cwV 2 hts gX5_markBody_X5_markBody rfl rfl rfl (by decide +kernel) ⟨by rw [← hRM]; first | decide | (dsimp only; omega), by rw [← hRM]; first | decide | (dsimp only; omega)⟩) hP hD hS hA hK [0, 1, 2, 3, 4, 5, 6, 7, 8] rfl (by decide) [0, 1, 2] rfl zX_bl (zX_go hEX hS) (fun _ => rfl) (fun _ => rfl) (q0 := 0) rfl rfl rfl rfl hl.1 rfl (Nat.le_of_ble_eq_true rfl) dX5_markBody_79 ⟨Nat.zero_le _, Nat.zero_le _⟩ (fun u H locs hpo hP hD hS => ?_)
        obtain ⟨tr2_79, rfl⟩ : ∃ z, z = u := ⟨_, rfl⟩
        have hp0_79 : tr2_79 = (tr + (kTl kd)) + mkT 0 := hpo
        have hP : va_P (dC, dI) vwCl [(w0, .inr (4, [.ref x0, .ref h0, .ref g0, .ref p0, .ref q0, .ref r0, .int (zI fk), .int (zI sk), .ref t0, .ref b1, .ref b2, .long tr2_79])), (h0, .inr (0, [.int (zI n), .ref h1, .ref h2, .ref h3, .ref h4])), (h1, .inl (cI, 9, .inl (zA so))), (h2, .inl (cI, 9, .inl (zA le))), (h3, .inl (cI, 9, .inl (zA ri))), (h4, .inl (cI, 9, .inl (zA ti))), (p0, .inr (1, [.int (zI (pk st)), .int (zI lo), .int (zI li), .int (zI kn), .ref p1, .ref p2])), (p1, .inl (cI, 9, .inl (zA al))), (p2, .inl (cI, 20, .inl (zA ah)))] H := hP
        have hD : va_D A [(w0, .inr (4, [.ref x0, .ref h0, .ref g0, .ref p0, .ref q0, .ref r0, .int (zI fk), .int (zI sk), .ref t0, .ref b1, .ref b2, .long tr2_79])), (h0, .inr (0, [.int (zI n), .ref h1, .ref h2, .ref h3, .ref h4])), (h1, .inl (cI, 9, .inl (zA so))), (h2, .inl (cI, 9, .inl (zA le))), (h3, .inl (cI, 9, .inl (zA ri))), (h4, .inl (cI, 9, .inl (zA ti))), (p0, .inr (1, [.int (zI (pk st)), .int (zI lo), .int (zI li), .int (zI kn), .ref p1, .ref p2])), (p1, .inl (cI, 9, .inl (zA al))), (p2, .inl (cI, 20, .inl (zA ah)))] := hD
        refine W.eq (g2 := F0 m 82 ls [.int (zI (q_mark ti st al li 0 k))]) rfl ?_
        refine lv_iload_n hx hb dX5_markBody_82 rfl (lv_at hl 2 rfl) ?_
        refine zv_isub hx hb dX5_markBody_83 ?_
        rw [← hQQ]
        exact zw_iret hx hb hr hlocks (tr2_79) (congrArg (fun z => some (Value.int (zI z))) (show q_mark ti st al li kd k = (q_mark ti st al li 0 k) - k from by unfold q_mark; (repeat' split) <;> first | rfl | omega)) (by rw [hp0_79]; exact kTl_a (by omega) (by omega)) hP hS dX5_markBody_84
      · exfalso; omega
      · exfalso; omega
      · refine zv_tableIn (k := 5) (tgt := 109) hx hb (by omega) c_27 (by omega) dX5_markBody_27 rfl (by decide) ?_
        refine lv_aload_n hx hb dX5_markBody_109 rfl (lv_at hl 0 rfl) ?_
        refine zv_iconst hx hb dX5_markBody_110 ?_
        refine lv_iload_n hx hb dX5_markBody_111 rfl (lv_at hl 2 rfl) ?_
        refine zv_callXV (As := [.int (zI 0), .int (zI k)]) (rest := []) (ws2 := fun u => [(w0, .inr (4, [.ref x0, .ref h0, .ref g0, .ref p0, .ref q0, .ref r0, .int (zI fk), .int (zI sk), .ref t0, .ref b1, .ref b2, .long u])), (h0, .inr (0, [.int (zI n), .ref h1, .ref h2, .ref h3, .ref h4])), (h1, .inl (cI, 9, .inl (zA so))), (h2, .inl (cI, 9, .inl (zA le))), (h3, .inl (cI, 9, .inl (zA ri))), (h4, .inl (cI, 9, .inl (zA ti))), (p0, .inr (1, [.int (zI (pk st)), .int (zI lo), .int (zI li), .int (zI kn), .ref p1, .ref p2])), (p1, .inl (cI, 9, .inl (zA al))), (p2, .inl (cI, 20, .inl (zA ah)))]) ⟨hx, hb, hml, hown, hts⟩ (c_X5_markBody0 l dC dI cI cB cZ w0 x0 h0 g0 p0 q0 r0 fk sk t0 b1 b2 (tr + (kTl kd)) h1 h2 h3 h4 n so le ri ti p1 p2 st lo li kn al ah adK adV kt 0 k (by exact hh) (by exact hs) (by omega) (by omega) (by omega) (by omega)) (cwV 2 hts gX5_markBody_X5_markBody rfl rfl rfl (by decide +kernel) ⟨by rw [← hRM]; first | decide | (dsimp only; omega), by rw [← hRM]; first | decide | (dsimp only; omega)⟩) hP hD hS hA hK [0, 1, 2, 3, 4, 5, 6, 7, 8] rfl (by decide) [0, 1, 2] rfl zX_bl (zX_go hEX hS) (fun _ => rfl) (fun _ => rfl) (q0 := 0) rfl rfl rfl rfl hl.1 rfl (Nat.le_of_ble_eq_true rfl) dX5_markBody_112 ⟨Nat.zero_le _, Nat.zero_le _⟩ (fun u H locs hpo hP hD hS => ?_)
        obtain ⟨tr2_112, rfl⟩ : ∃ z, z = u := ⟨_, rfl⟩
        have hp0_112 : tr2_112 = (tr + (kTl kd)) + mkT 0 := hpo
        have hP : va_P (dC, dI) vwCl [(w0, .inr (4, [.ref x0, .ref h0, .ref g0, .ref p0, .ref q0, .ref r0, .int (zI fk), .int (zI sk), .ref t0, .ref b1, .ref b2, .long tr2_112])), (h0, .inr (0, [.int (zI n), .ref h1, .ref h2, .ref h3, .ref h4])), (h1, .inl (cI, 9, .inl (zA so))), (h2, .inl (cI, 9, .inl (zA le))), (h3, .inl (cI, 9, .inl (zA ri))), (h4, .inl (cI, 9, .inl (zA ti))), (p0, .inr (1, [.int (zI (pk st)), .int (zI lo), .int (zI li), .int (zI kn), .ref p1, .ref p2])), (p1, .inl (cI, 9, .inl (zA al))), (p2, .inl (cI, 20, .inl (zA ah)))] H := hP
        have hD : va_D A [(w0, .inr (4, [.ref x0, .ref h0, .ref g0, .ref p0, .ref q0, .ref r0, .int (zI fk), .int (zI sk), .ref t0, .ref b1, .ref b2, .long tr2_112])), (h0, .inr (0, [.int (zI n), .ref h1, .ref h2, .ref h3, .ref h4])), (h1, .inl (cI, 9, .inl (zA so))), (h2, .inl (cI, 9, .inl (zA le))), (h3, .inl (cI, 9, .inl (zA ri))), (h4, .inl (cI, 9, .inl (zA ti))), (p0, .inr (1, [.int (zI (pk st)), .int (zI lo), .int (zI li), .int (zI kn), .ref p1, .ref p2])), (p1, .inl (cI, 9, .inl (zA al))), (p2, .inl (cI, 20, .inl (zA ah)))] := hD
        refine W.eq (g2 := F0 m 115 ls [.int (zI (q_mark ti st al li 0 k))]) rfl ?_
        refine lv_aload_n hx hb dX5_markBody_115 rfl (lv_at hl 0 rfl) ?_
        refine va_get (D := (dC, dI)) (ci := 4) (v := .ref p0) (C := RX5) (T := TX5) (N := 12) hx hb hts in_X5 hown hK hP 0 rfl rfl 3 (by decide) w_3 (fun _ h9 => h9) rfl dX5_markBody_116 ?_
        refine lv_iload_n hx hb dX5_markBody_119 rfl (lv_at hl 2 rfl) ?_
        refine zv_callRV (As := [.int (zI k)]) (rest := [.int (zI (q_mark ti st al li 0 k))]) ⟨hx, hb, hml, hown, hts⟩ (c_X1_atPart l dC dI cI cB cZ p0 p1 p2 (pk st) lo li kn al ah k (by omega)) (cwV 1 hts gX5_markBody_X1_atPart rfl rfl rfl (by decide +kernel) ⟨by rw [← hRM]; first | decide | (dsimp only; omega), by rw [← hRM]; first | decide | (dsimp only; omega)⟩) hP hK [6, 7, 8] rfl [0, 1, 2] rfl zN_bl (zN_go hE) (q0 := 0) rfl rfl rfl rfl hl.1 rfl (Nat.le_of_ble_eq_true rfl) dX5_markBody_120 ⟨Nat.zero_le _, Nat.zero_le _⟩ ?_
        rw [show (if 0 ≤ k ∧ k < 9 then al k else 0) = al k from if_pos (by omega)]
        refine zv_iadd hx hb dX5_markBody_123 ?_
        rw [← hQQ]
        exact zw_iret hx hb hr hlocks (tr2_112) (congrArg (fun z => some (Value.int (zI z))) (show q_mark ti st al li kd k = (q_mark ti st al li 0 k) + (al k) from by unfold q_mark; (repeat' split) <;> first | rfl | omega)) (by rw [hp0_112]; exact kTl_a (by omega) (by omega)) hP hS dX5_markBody_124
      · exfalso; omega
    · exfalso; omega
set_option maxHeartbeats 4000000 in
set_option maxRecDepth 100000 in
theorem c_X5_markBody2 (l : Launch) (dC : Nat → ClassId) (dI : Nat → Nat → Nat) (cI cB cZ : ClassId) (w0 : Nat) (x0 : Nat) (h0 : Nat) (g0 : Nat) (p0 : Nat) (q0 : Nat) (r0 : Nat) (fk : Int) (sk : Int) (t0 : Nat) (b1 : Nat) (b2 : Nat) (tr : Int64) (h1 : Nat) (h2 : Nat) (h3 : Nat) (h4 : Nat) (n : Int) (so : Int → Int) (le : Int → Int) (ri : Int → Int) (ti : Int → Int) (p1 : Nat) (p2 : Nat) (st : Int → Int) (lo : Int) (li : Int) (kn : Int) (al : Int → Int) (ah : Int → Int) (adK : Nat → Nat) (adV : Nat → Nat) (kt : Nat) (kd : Int) (k : Int) (hh : hOk n so le ri ti) (hs : sOk n so ti st) (hk : -2147483648 ≤ k ∧ k ≤ 2147483647) (hkk : 0 ≤ k ∧ k < n) (hkd : kd = 3 ∨ kd = 4) (hli : -2147483648 ≤ li ∧ li ≤ 2147483647) : MetX (S := (Int64)) l yX5_markBody wsX5_markBody ({ frames := 3, cells := 0, slots := 0, locals := 65 }) (dC, dI) vwCl (zT cI cB cZ) (zX adK adV kt) [(w0, .inr (4, [.ref x0, .ref h0, .ref g0, .ref p0, .ref q0, .ref r0, .int (zI fk), .int (zI sk), .ref t0, .ref b1, .ref b2, .long tr])), (h0, .inr (0, [.int (zI n), .ref h1, .ref h2, .ref h3, .ref h4])), (h1, .inl (cI, 9, .inl (zA so))), (h2, .inl (cI, 9, .inl (zA le))), (h3, .inl (cI, 9, .inl (zA ri))), (h4, .inl (cI, 9, .inl (zA ti))), (p0, .inr (1, [.int (zI (pk st)), .int (zI lo), .int (zI li), .int (zI kn), .ref p1, .ref p2])), (p1, .inl (cI, 9, .inl (zA al))), (p2, .inl (cI, 20, .inl (zA ah)))] [.ref w0, .int (zI kd), .int (zI k)] (fun u => some (.int (zI (q_mark ti st al li kd k)))) (fun u => [(w0, .inr (4, [.ref x0, .ref h0, .ref g0, .ref p0, .ref q0, .ref r0, .int (zI fk), .int (zI sk), .ref t0, .ref b1, .ref b2, .long u])), (h0, .inr (0, [.int (zI n), .ref h1, .ref h2, .ref h3, .ref h4])), (h1, .inl (cI, 9, .inl (zA so))), (h2, .inl (cI, 9, .inl (zA le))), (h3, .inl (cI, 9, .inl (zA ri))), (h4, .inl (cI, 9, .inl (zA ti))), (p0, .inr (1, [.int (zI (pk st)), .int (zI lo), .int (zI li), .int (zI kn), .ref p1, .ref p2])), (p1, .inl (cI, 9, .inl (zA al))), (p2, .inl (cI, 20, .inl (zA ah)))]) (fun u => (u = tr + mkT kd)) := by
  refine MetX.intro (cc := cX5_markBody) (maxL := 3) (ret := (some .int)) (by decide) rfl (Nat.le_of_ble_eq_true rfl) ?_
  intro p e s m args below meth c A hx hb hr hlocks hml hts hown hP hK hD hS hA hE ls hl
  have hown : s.vm.findClass RX5 = some m.cls := hown
  have hEX := hE
  have hE : zN s := hEX.1
  have hl : lv_has ls 3 [(0, .ref w0), (1, .int (zI kd)), (2, .int (zI k))] := hl
  generalize hRM : ({ frames := 3, cells := 0, slots := 0, locals := 65 } : Room) = RM
  generalize hQQ : MQ below (QW (S := (Int64)) (dC, dI) vwCl A (fun u => some (.int (zI (q_mark ti st al li kd k)))) (fun u => [(w0, .inr (4, [.ref x0, .ref h0, .ref g0, .ref p0, .ref q0, .ref r0, .int (zI fk), .int (zI sk), .ref t0, .ref b1, .ref b2, .long u])), (h0, .inr (0, [.int (zI n), .ref h1, .ref h2, .ref h3, .ref h4])), (h1, .inl (cI, 9, .inl (zA so))), (h2, .inl (cI, 9, .inl (zA le))), (h3, .inl (cI, 9, .inl (zA ri))), (h4, .inl (cI, 9, .inl (zA ti))), (p0, .inr (1, [.int (zI (pk st)), .int (zI lo), .int (zI li), .int (zI kn), .ref p1, .ref p2])), (p1, .inl (cI, 9, .inl (zA al))), (p2, .inl (cI, 20, .inl (zA ah)))]) (fun u => (u = tr + mkT kd))) args s 0 0 A = QQ
  have in_X1 : ∀ w ∈ wsX10, w ∈ wsX5_markBody := by decide +kernel
  have in_X5 : ∀ w ∈ wsX50, w ∈ wsX5_markBody := by decide +kernel
  have w_0 := hts (.fieldLink RX5 209 "WallMarbles" "traced" "J") (by decide +kernel)
  have w_1 := hts (.fieldLink RX5 223 "WallMarbles" "KIND_TRACE" "[I") (by decide +kernel)
  have w_2 := hts (.fieldLink RX5 29 "WallMarbles" "present" "LWallMarbles$Present;") (by decide +kernel)
  have n_113 := va_Nw.use (A := args) rfl (zN_5 hE)
  have hn := hh.1
  refine lv_iload_n hx hb dX5_markBody_0 rfl (lv_at hl 1 rfl) ?_
  refine zv_if_lt (tgt := 9) hx hb (by omega) dX5_markBody_1 (by decide) (fun c_1 => ?_) (fun c_1 => ?_)
  · exfalso; omega
  · refine lv_iload_n hx hb dX5_markBody_4 rfl (lv_at hl 1 rfl) ?_
    refine zv_iconst hx hb dX5_markBody_5 ?_
    refine zv_icmp_le (tgt := 11) hx hb (by omega) (by omega) dX5_markBody_6 (by decide) (fun c_6 => ?_) (fun c_6 => ?_)
    · refine lv_aload_n hx hb dX5_markBody_11 rfl (lv_at hl 0 rfl) ?_
      refine lv_dup hx hb dX5_markBody_12 rfl ?_
      refine va_get (D := (dC, dI)) (ci := 4) (v := .long tr) (C := RX5) (T := TX5) (N := 12) hx hb hts in_X5 hown hK hP 0 rfl rfl 11 (by decide) w_0 (fun _ h9 => h9) rfl dX5_markBody_13 ?_
      refine va_gets hx hb hEX.2.2.2.2.2.1 hS hown w_1 (fun _ h => h) dX5_markBody_16 ?_
      refine lv_iload_n hx hb dX5_markBody_19 rfl (lv_at hl 1 rfl) ?_
      refine va_ti (v := .int (zI (kTr kd))) hx hb hEX.2.2.2.2.2.2 hS (zI_in ⟨by omega, by omega, by omega⟩) (by show Value.int (zTr _) = _; rw [zI_cl (by omega)]; exact congrArg Value.int (kTr_z (by omega))) dX5_markBody_20 ?_
      refine lv_i2l (v := kTl kd) hx hb dX5_markBody_21 (by exact kTl_z (by omega)) ?_
      refine lv_ladd hx hb dX5_markBody_22 ?_
      refine va_put (D := (dC, dI)) (ci := 4) (v := .long (tr + (kTl kd))) (ty := .long) (C := RX5) (T := TX5) (N := 12) hx hb hts in_X5 tyX5 tyX5_ok nmX5 hown hK hP hD hS 0 rfl rfl 11 (by decide) w_0 (fun _ h9 => h9) rfl (by decide +kernel) rfl rfl (Nat.le_of_ble_eq_true rfl) dX5_markBody_23 (fun H locs hP hD hS => ?_)
      have hP : va_P (dC, dI) vwCl [(w0, .inr (4, [.ref x0, .ref h0, .ref g0, .ref p0, .ref q0, .ref r0, .int (zI fk), .int (zI sk), .ref t0, .ref b1, .ref b2, .long (tr + (kTl kd))])), (h0, .inr (0, [.int (zI n), .ref h1, .ref h2, .ref h3, .ref h4])), (h1, .inl (cI, 9, .inl (zA so))), (h2, .inl (cI, 9, .inl (zA le))), (h3, .inl (cI, 9, .inl (zA ri))), (h4, .inl (cI, 9, .inl (zA ti))), (p0, .inr (1, [.int (zI (pk st)), .int (zI lo), .int (zI li), .int (zI kn), .ref p1, .ref p2])), (p1, .inl (cI, 9, .inl (zA al))), (p2, .inl (cI, 20, .inl (zA ah)))] H := hP
      have hD : va_D A [(w0, .inr (4, [.ref x0, .ref h0, .ref g0, .ref p0, .ref q0, .ref r0, .int (zI fk), .int (zI sk), .ref t0, .ref b1, .ref b2, .long (tr + (kTl kd))])), (h0, .inr (0, [.int (zI n), .ref h1, .ref h2, .ref h3, .ref h4])), (h1, .inl (cI, 9, .inl (zA so))), (h2, .inl (cI, 9, .inl (zA le))), (h3, .inl (cI, 9, .inl (zA ri))), (h4, .inl (cI, 9, .inl (zA ti))), (p0, .inr (1, [.int (zI (pk st)), .int (zI lo), .int (zI li), .int (zI kn), .ref p1, .ref p2])), (p1, .inl (cI, 9, .inl (zA al))), (p2, .inl (cI, 20, .inl (zA ah)))] := hD
      refine lv_iload_n hx hb dX5_markBody_26 rfl (lv_at hl 1 rfl) ?_
      rcases (show kd = 1 ∨ kd = 2 ∨ kd = 3 ∨ kd = 4 ∨ kd = 5 ∨ (kd < 1 ∨ 5 < kd) by omega) with c_27 | c_27 | c_27 | c_27 | c_27 | c_27
      · exfalso; omega
      · exfalso; omega
      · refine zv_tableIn (k := 3) (tgt := 85) hx hb (by omega) c_27 (by omega) dX5_markBody_27 rfl (by decide) ?_
        refine lv_aload_n hx hb dX5_markBody_85 rfl (lv_at hl 0 rfl) ?_
        refine zv_iconst hx hb dX5_markBody_86 ?_
        refine lv_iload_n hx hb dX5_markBody_87 rfl (lv_at hl 2 rfl) ?_
        refine zv_callXV (As := [.int (zI 1), .int (zI k)]) (rest := []) (ws2 := fun u => [(w0, .inr (4, [.ref x0, .ref h0, .ref g0, .ref p0, .ref q0, .ref r0, .int (zI fk), .int (zI sk), .ref t0, .ref b1, .ref b2, .long u])), (h0, .inr (0, [.int (zI n), .ref h1, .ref h2, .ref h3, .ref h4])), (h1, .inl (cI, 9, .inl (zA so))), (h2, .inl (cI, 9, .inl (zA le))), (h3, .inl (cI, 9, .inl (zA ri))), (h4, .inl (cI, 9, .inl (zA ti))), (p0, .inr (1, [.int (zI (pk st)), .int (zI lo), .int (zI li), .int (zI kn), .ref p1, .ref p2])), (p1, .inl (cI, 9, .inl (zA al))), (p2, .inl (cI, 20, .inl (zA ah)))]) ⟨hx, hb, hml, hown, hts⟩ (c_X5_markBody1 l dC dI cI cB cZ w0 x0 h0 g0 p0 q0 r0 fk sk t0 b1 b2 (tr + (kTl kd)) h1 h2 h3 h4 n so le ri ti p1 p2 st lo li kn al ah adK adV kt 1 k (by exact hh) (by exact hs) (by omega) (by omega) (by omega) (by omega)) (cwV 2 hts gX5_markBody_X5_markBody rfl rfl rfl (by decide +kernel) ⟨by rw [← hRM]; first | decide | (dsimp only; omega), by rw [← hRM]; first | decide | (dsimp only; omega)⟩) hP hD hS hA hK [0, 1, 2, 3, 4, 5, 6, 7, 8] rfl (by decide) [0, 1, 2] rfl zX_bl (zX_go hEX hS) (fun _ => rfl) (fun _ => rfl) (q0 := 0) rfl rfl rfl rfl hl.1 rfl (Nat.le_of_ble_eq_true rfl) dX5_markBody_88 ⟨Nat.zero_le _, Nat.zero_le _⟩ (fun u H locs hpo hP hD hS => ?_)
        obtain ⟨tr2_88, rfl⟩ : ∃ z, z = u := ⟨_, rfl⟩
        have hp0_88 : tr2_88 = (tr + (kTl kd)) + mkT 1 := hpo
        have hP : va_P (dC, dI) vwCl [(w0, .inr (4, [.ref x0, .ref h0, .ref g0, .ref p0, .ref q0, .ref r0, .int (zI fk), .int (zI sk), .ref t0, .ref b1, .ref b2, .long tr2_88])), (h0, .inr (0, [.int (zI n), .ref h1, .ref h2, .ref h3, .ref h4])), (h1, .inl (cI, 9, .inl (zA so))), (h2, .inl (cI, 9, .inl (zA le))), (h3, .inl (cI, 9, .inl (zA ri))), (h4, .inl (cI, 9, .inl (zA ti))), (p0, .inr (1, [.int (zI (pk st)), .int (zI lo), .int (zI li), .int (zI kn), .ref p1, .ref p2])), (p1, .inl (cI, 9, .inl (zA al))), (p2, .inl (cI, 20, .inl (zA ah)))] H := hP
        have hD : va_D A [(w0, .inr (4, [.ref x0, .ref h0, .ref g0, .ref p0, .ref q0, .ref r0, .int (zI fk), .int (zI sk), .ref t0, .ref b1, .ref b2, .long tr2_88])), (h0, .inr (0, [.int (zI n), .ref h1, .ref h2, .ref h3, .ref h4])), (h1, .inl (cI, 9, .inl (zA so))), (h2, .inl (cI, 9, .inl (zA le))), (h3, .inl (cI, 9, .inl (zA ri))), (h4, .inl (cI, 9, .inl (zA ti))), (p0, .inr (1, [.int (zI (pk st)), .int (zI lo), .int (zI li), .int (zI kn), .ref p1, .ref p2])), (p1, .inl (cI, 9, .inl (zA al))), (p2, .inl (cI, 20, .inl (zA ah)))] := hD
        refine W.eq (g2 := F0 m 91 ls [.int (zI (q_mark ti st al li 1 k))]) rfl ?_
        refine zv_iconst hx hb dX5_markBody_91 ?_
        refine zv_imul hx hb dX5_markBody_92 ?_
        rw [← hQQ]
        exact zw_iret hx hb hr hlocks (tr2_88) (congrArg (fun z => some (Value.int (zI z))) (show q_mark ti st al li kd k = (q_mark ti st al li 1 k) * 2 from by unfold q_mark; (repeat' split) <;> first | rfl | omega)) (by rw [hp0_88]; exact kTl_a (by omega) (by omega)) hP hS dX5_markBody_93
      · refine zv_tableIn (k := 4) (tgt := 94) hx hb (by omega) c_27 (by omega) dX5_markBody_27 rfl (by decide) ?_
        refine lv_aload_n hx hb dX5_markBody_94 rfl (lv_at hl 0 rfl) ?_
        refine zv_iconst hx hb dX5_markBody_95 ?_
        refine lv_iload_n hx hb dX5_markBody_96 rfl (lv_at hl 2 rfl) ?_
        refine zv_callXV (As := [.int (zI 2), .int (zI k)]) (rest := []) (ws2 := fun u => [(w0, .inr (4, [.ref x0, .ref h0, .ref g0, .ref p0, .ref q0, .ref r0, .int (zI fk), .int (zI sk), .ref t0, .ref b1, .ref b2, .long u])), (h0, .inr (0, [.int (zI n), .ref h1, .ref h2, .ref h3, .ref h4])), (h1, .inl (cI, 9, .inl (zA so))), (h2, .inl (cI, 9, .inl (zA le))), (h3, .inl (cI, 9, .inl (zA ri))), (h4, .inl (cI, 9, .inl (zA ti))), (p0, .inr (1, [.int (zI (pk st)), .int (zI lo), .int (zI li), .int (zI kn), .ref p1, .ref p2])), (p1, .inl (cI, 9, .inl (zA al))), (p2, .inl (cI, 20, .inl (zA ah)))]) ⟨hx, hb, hml, hown, hts⟩ (c_X5_markBody1 l dC dI cI cB cZ w0 x0 h0 g0 p0 q0 r0 fk sk t0 b1 b2 (tr + (kTl kd)) h1 h2 h3 h4 n so le ri ti p1 p2 st lo li kn al ah adK adV kt 2 k (by exact hh) (by exact hs) (by omega) (by omega) (by omega) (by omega)) (cwV 2 hts gX5_markBody_X5_markBody rfl rfl rfl (by decide +kernel) ⟨by rw [← hRM]; first | decide | (dsimp only; omega), by rw [← hRM]; first | decide | (dsimp only; omega)⟩) hP hD hS hA hK [0, 1, 2, 3, 4, 5, 6, 7, 8] rfl (by decide) [0, 1, 2] rfl zX_bl (zX_go hEX hS) (fun _ => rfl) (fun _ => rfl) (q0 := 0) rfl rfl rfl rfl hl.1 rfl (Nat.le_of_ble_eq_true rfl) dX5_markBody_97 ⟨Nat.zero_le _, Nat.zero_le _⟩ (fun u H locs hpo hP hD hS => ?_)
        obtain ⟨tr2_97, rfl⟩ : ∃ z, z = u := ⟨_, rfl⟩
        have hp0_97 : tr2_97 = (tr + (kTl kd)) + mkT 2 := hpo
        have hP : va_P (dC, dI) vwCl [(w0, .inr (4, [.ref x0, .ref h0, .ref g0, .ref p0, .ref q0, .ref r0, .int (zI fk), .int (zI sk), .ref t0, .ref b1, .ref b2, .long tr2_97])), (h0, .inr (0, [.int (zI n), .ref h1, .ref h2, .ref h3, .ref h4])), (h1, .inl (cI, 9, .inl (zA so))), (h2, .inl (cI, 9, .inl (zA le))), (h3, .inl (cI, 9, .inl (zA ri))), (h4, .inl (cI, 9, .inl (zA ti))), (p0, .inr (1, [.int (zI (pk st)), .int (zI lo), .int (zI li), .int (zI kn), .ref p1, .ref p2])), (p1, .inl (cI, 9, .inl (zA al))), (p2, .inl (cI, 20, .inl (zA ah)))] H := hP
        have hD : va_D A [(w0, .inr (4, [.ref x0, .ref h0, .ref g0, .ref p0, .ref q0, .ref r0, .int (zI fk), .int (zI sk), .ref t0, .ref b1, .ref b2, .long tr2_97])), (h0, .inr (0, [.int (zI n), .ref h1, .ref h2, .ref h3, .ref h4])), (h1, .inl (cI, 9, .inl (zA so))), (h2, .inl (cI, 9, .inl (zA le))), (h3, .inl (cI, 9, .inl (zA ri))), (h4, .inl (cI, 9, .inl (zA ti))), (p0, .inr (1, [.int (zI (pk st)), .int (zI lo), .int (zI li), .int (zI kn), .ref p1, .ref p2])), (p1, .inl (cI, 9, .inl (zA al))), (p2, .inl (cI, 20, .inl (zA ah)))] := hD
        refine W.eq (g2 := F0 m 100 ls [.int (zI (q_mark ti st al li 2 k))]) rfl ?_
        refine lv_aload_n hx hb dX5_markBody_100 rfl (lv_at hl 0 rfl) ?_
        refine va_get (D := (dC, dI)) (ci := 4) (v := .ref p0) (C := RX5) (T := TX5) (N := 12) hx hb hts in_X5 hown hK hP 0 rfl rfl 3 (by decide) w_2 (fun _ h9 => h9) rfl dX5_markBody_101 ?_
        refine va_getN (D := (dC, dI)) (ci := 1) (v := .int (zI li)) (C := RX1) (T := TX1) (N := 6) hx hb hts in_X1 hown hK hP 6 rfl rfl 2 (by decide) n_113 (fun _ h9 => h9) rfl dX5_markBody_104 ?_
        refine zv_iadd hx hb dX5_markBody_107 ?_
        rw [← hQQ]
        exact zw_iret hx hb hr hlocks (tr2_97) (congrArg (fun z => some (Value.int (zI z))) (show q_mark ti st al li kd k = (q_mark ti st al li 2 k) + li from by unfold q_mark; (repeat' split) <;> first | rfl | omega)) (by rw [hp0_97]; exact kTl_a (by omega) (by omega)) hP hS dX5_markBody_108
      · exfalso; omega
      · exfalso; omega
    · exfalso; omega
set_option maxHeartbeats 4000000 in
set_option maxRecDepth 100000 in
theorem c_X5_markN (l : Launch) (dC : Nat → ClassId) (dI : Nat → Nat → Nat) (cI cB cZ : ClassId) (w0 : Nat) (x0 : Nat) (h0 : Nat) (g0 : Nat) (p0 : Nat) (q0 : Nat) (r0 : Nat) (fk : Int) (sk : Int) (t0 : Nat) (b1 : Nat) (b2 : Nat) (tr : Int64) (h1 : Nat) (h2 : Nat) (h3 : Nat) (h4 : Nat) (n : Int) (so : Int → Int) (le : Int → Int) (ri : Int → Int) (ti : Int → Int) (p1 : Nat) (p2 : Nat) (st : Int → Int) (lo : Int) (li : Int) (kn : Int) (al : Int → Int) (ah : Int → Int) (kd : Int) (k : Int) (hh : hOk n so le ri ti) (hk : -2147483648 ≤ k ∧ k ≤ 2147483647) (hkd : -2147483648 ≤ kd ∧ kd ≤ 2147483647) (hno : ¬ (0 ≤ kd ∧ kd ≤ 5 ∧ 0 ≤ k ∧ k < n)) : MetR l yX5_mark wsX5_mark ({ frames := 1, cells := 0, slots := 0, locals := 21 }) (dC, dI) vwCl (zT cI cB cZ) zN [(w0, .inr (4, [.ref x0, .ref h0, .ref g0, .ref p0, .ref q0, .ref r0, .int (zI fk), .int (zI sk), .ref t0, .ref b1, .ref b2, .long tr])), (h0, .inr (0, [.int (zI n), .ref h1, .ref h2, .ref h3, .ref h4])), (h1, .inl (cI, 9, .inl (zA so))), (h2, .inl (cI, 9, .inl (zA le))), (h3, .inl (cI, 9, .inl (zA ri))), (h4, .inl (cI, 9, .inl (zA ti))), (p0, .inr (1, [.int (zI (pk st)), .int (zI lo), .int (zI li), .int (zI kn), .ref p1, .ref p2])), (p1, .inl (cI, 9, .inl (zA al))), (p2, .inl (cI, 20, .inl (zA ah)))] [.ref w0, .int (zI kd), .int (zI k)] (zI (-1000000)) := by
  refine MetR.intro (cc := cX5_mark) (maxL := 3) (ret := (some .int)) (by decide) rfl (Nat.le_of_ble_eq_true rfl) ?_
  intro p e s m args below meth c hx hb hr hlocks hml hts hown hP hK hE ls hl
  have hown : s.vm.findClass RX5 = some m.cls := hown
  have hl : lv_has ls 3 [(0, .ref w0), (1, .int (zI kd)), (2, .int (zI k))] := hl
  generalize hRM : ({ frames := 1, cells := 0, slots := 0, locals := 21 } : Room) = RM
  generalize hQQ : MQ below (vp_Si (fun r => r = zI (-1000000))) args s 0 0 (fun _ => False) = QQ
  have in_X5 : ∀ w ∈ wsX50, w ∈ wsX5_mark := by decide +kernel
  have w_0 := hts (.constant RX5 198 (-1000000)) (by decide +kernel)
  have w_1 := hts (.fieldLink RX5 19 "WallMarbles" "built" "LWallMarbles$House;") (by decide +kernel)
  have hn := hh.1
  refine lv_iload_n hx hb dX5_mark_0 rfl (lv_at hl 1 rfl) ?_
  refine zv_if_lt (tgt := 20) hx hb (by omega) dX5_mark_1 (by decide) (fun c_1 => ?_) (fun c_1 => ?_)
  · refine zv_ldc (n := (-1000000)) hx hb hown w_0 (by decide +kernel) dX5_mark_20 ?_
    rw [← hQQ]
    exact zr_iret hx hb hr hlocks (congrArg zI (show (-1000000) = -1000000 from by first | rfl | omega | exact (bZ_t (by omega)).symm | exact (bZ_f (by omega)).symm)) dX5_mark_22
  · refine lv_iload_n hx hb dX5_mark_4 rfl (lv_at hl 1 rfl) ?_
    refine zv_iconst hx hb dX5_mark_5 ?_
    refine zv_icmp_gt (tgt := 20) hx hb (by omega) (by omega) dX5_mark_6 (by decide) (fun c_6 => ?_) (fun c_6 => ?_)
    · refine zv_ldc (n := (-1000000)) hx hb hown w_0 (by decide +kernel) dX5_mark_20 ?_
      rw [← hQQ]
      exact zr_iret hx hb hr hlocks (congrArg zI (show (-1000000) = -1000000 from by first | rfl | omega | exact (bZ_t (by omega)).symm | exact (bZ_f (by omega)).symm)) dX5_mark_22
    · refine lv_aload_n hx hb dX5_mark_9 rfl (lv_at hl 0 rfl) ?_
      refine va_get (D := (dC, dI)) (ci := 4) (v := .ref h0) (C := RX5) (T := TX5) (N := 12) hx hb hts in_X5 hown hK hP 0 rfl rfl 1 (by decide) w_1 (fun _ h9 => h9) rfl dX5_mark_10 ?_
      refine lv_iload_n hx hb dX5_mark_13 rfl (lv_at hl 2 rfl) ?_
      refine zv_callRV (As := [.int (zI k)]) (rest := []) ⟨hx, hb, hml, hown, hts⟩ (c_X0_has l dC dI cI cB cZ h0 h1 h2 h3 h4 n so le ri ti k (by omega) (by omega)) (cwV 1 hts gX5_mark_X0_has rfl rfl rfl (by decide +kernel) ⟨by rw [← hRM]; first | decide | (dsimp only; omega), by rw [← hRM]; first | decide | (dsimp only; omega)⟩) hP hK [1, 2, 3, 4, 5] rfl [0, 1, 2] rfl zN_bl (zN_go hE) (q0 := 0) rfl rfl rfl rfl hl.1 rfl (Nat.le_of_ble_eq_true rfl) dX5_mark_14 ⟨Nat.zero_le _, Nat.zero_le _⟩ ?_
      refine zv_ifne_b (tgt := 23) hx hb dX5_mark_17 (by decide) (fun c_17 => ?_) (fun c_17 => ?_)
      · exfalso; omega
      · refine zv_ldc (n := (-1000000)) hx hb hown w_0 (by decide +kernel) dX5_mark_20 ?_
        rw [← hQQ]
        exact zr_iret hx hb hr hlocks (congrArg zI (show (-1000000) = -1000000 from by first | rfl | omega | exact (bZ_t (by omega)).symm | exact (bZ_f (by omega)).symm)) dX5_mark_22
set_option maxHeartbeats 4000000 in
set_option maxRecDepth 100000 in
theorem c_X5_mark0 (l : Launch) (dC : Nat → ClassId) (dI : Nat → Nat → Nat) (cI cB cZ : ClassId) (w0 : Nat) (x0 : Nat) (h0 : Nat) (g0 : Nat) (p0 : Nat) (q0 : Nat) (r0 : Nat) (fk : Int) (sk : Int) (t0 : Nat) (b1 : Nat) (b2 : Nat) (tr : Int64) (h1 : Nat) (h2 : Nat) (h3 : Nat) (h4 : Nat) (n : Int) (so : Int → Int) (le : Int → Int) (ri : Int → Int) (ti : Int → Int) (p1 : Nat) (p2 : Nat) (st : Int → Int) (lo : Int) (li : Int) (kn : Int) (al : Int → Int) (ah : Int → Int) (adK : Nat → Nat) (adV : Nat → Nat) (kt : Nat) (kd : Int) (k : Int) (hh : hOk n so le ri ti) (hs : sOk n so ti st) (hk : -2147483648 ≤ k ∧ k ≤ 2147483647) (hkk : 0 ≤ k ∧ k < n) (hkd : kd = 0) (hli : -2147483648 ≤ li ∧ li ≤ 2147483647) : MetX (S := (Int64)) l yX5_mark wsX5_mark ({ frames := 2, cells := 0, slots := 0, locals := 43 }) (dC, dI) vwCl (zT cI cB cZ) (zX adK adV kt) [(w0, .inr (4, [.ref x0, .ref h0, .ref g0, .ref p0, .ref q0, .ref r0, .int (zI fk), .int (zI sk), .ref t0, .ref b1, .ref b2, .long tr])), (h0, .inr (0, [.int (zI n), .ref h1, .ref h2, .ref h3, .ref h4])), (h1, .inl (cI, 9, .inl (zA so))), (h2, .inl (cI, 9, .inl (zA le))), (h3, .inl (cI, 9, .inl (zA ri))), (h4, .inl (cI, 9, .inl (zA ti))), (p0, .inr (1, [.int (zI (pk st)), .int (zI lo), .int (zI li), .int (zI kn), .ref p1, .ref p2])), (p1, .inl (cI, 9, .inl (zA al))), (p2, .inl (cI, 20, .inl (zA ah)))] [.ref w0, .int (zI kd), .int (zI k)] (fun u => some (.int (zI (q_mark ti st al li kd k)))) (fun u => [(w0, .inr (4, [.ref x0, .ref h0, .ref g0, .ref p0, .ref q0, .ref r0, .int (zI fk), .int (zI sk), .ref t0, .ref b1, .ref b2, .long u])), (h0, .inr (0, [.int (zI n), .ref h1, .ref h2, .ref h3, .ref h4])), (h1, .inl (cI, 9, .inl (zA so))), (h2, .inl (cI, 9, .inl (zA le))), (h3, .inl (cI, 9, .inl (zA ri))), (h4, .inl (cI, 9, .inl (zA ti))), (p0, .inr (1, [.int (zI (pk st)), .int (zI lo), .int (zI li), .int (zI kn), .ref p1, .ref p2])), (p1, .inl (cI, 9, .inl (zA al))), (p2, .inl (cI, 20, .inl (zA ah)))]) (fun u => (u = tr + mkT kd)) := by
  refine MetX.intro (cc := cX5_mark) (maxL := 3) (ret := (some .int)) (by decide) rfl (Nat.le_of_ble_eq_true rfl) ?_
  intro p e s m args below meth c A hx hb hr hlocks hml hts hown hP hK hD hS hA hE ls hl
  have hown : s.vm.findClass RX5 = some m.cls := hown
  have hEX := hE
  have hE : zN s := hEX.1
  have hl : lv_has ls 3 [(0, .ref w0), (1, .int (zI kd)), (2, .int (zI k))] := hl
  generalize hRM : ({ frames := 2, cells := 0, slots := 0, locals := 43 } : Room) = RM
  generalize hQQ : MQ below (QW (S := (Int64)) (dC, dI) vwCl A (fun u => some (.int (zI (q_mark ti st al li kd k)))) (fun u => [(w0, .inr (4, [.ref x0, .ref h0, .ref g0, .ref p0, .ref q0, .ref r0, .int (zI fk), .int (zI sk), .ref t0, .ref b1, .ref b2, .long u])), (h0, .inr (0, [.int (zI n), .ref h1, .ref h2, .ref h3, .ref h4])), (h1, .inl (cI, 9, .inl (zA so))), (h2, .inl (cI, 9, .inl (zA le))), (h3, .inl (cI, 9, .inl (zA ri))), (h4, .inl (cI, 9, .inl (zA ti))), (p0, .inr (1, [.int (zI (pk st)), .int (zI lo), .int (zI li), .int (zI kn), .ref p1, .ref p2])), (p1, .inl (cI, 9, .inl (zA al))), (p2, .inl (cI, 20, .inl (zA ah)))]) (fun u => (u = tr + mkT kd))) args s 0 0 A = QQ
  have in_X5 : ∀ w ∈ wsX50, w ∈ wsX5_mark := by decide +kernel
  have w_0 := hts (.fieldLink RX5 19 "WallMarbles" "built" "LWallMarbles$House;") (by decide +kernel)
  have hn := hh.1
  refine lv_iload_n hx hb dX5_mark_0 rfl (lv_at hl 1 rfl) ?_
  refine zv_if_lt (tgt := 20) hx hb (by omega) dX5_mark_1 (by decide) (fun c_1 => ?_) (fun c_1 => ?_)
  · exfalso; omega
  · refine lv_iload_n hx hb dX5_mark_4 rfl (lv_at hl 1 rfl) ?_
    refine zv_iconst hx hb dX5_mark_5 ?_
    refine zv_icmp_gt (tgt := 20) hx hb (by omega) (by omega) dX5_mark_6 (by decide) (fun c_6 => ?_) (fun c_6 => ?_)
    · exfalso; omega
    · refine lv_aload_n hx hb dX5_mark_9 rfl (lv_at hl 0 rfl) ?_
      refine va_get (D := (dC, dI)) (ci := 4) (v := .ref h0) (C := RX5) (T := TX5) (N := 12) hx hb hts in_X5 hown hK hP 0 rfl rfl 1 (by decide) w_0 (fun _ h9 => h9) rfl dX5_mark_10 ?_
      refine lv_iload_n hx hb dX5_mark_13 rfl (lv_at hl 2 rfl) ?_
      refine zv_callRV (As := [.int (zI k)]) (rest := []) ⟨hx, hb, hml, hown, hts⟩ (c_X0_has l dC dI cI cB cZ h0 h1 h2 h3 h4 n so le ri ti k (by omega) (by omega)) (cwV 1 hts gX5_mark_X0_has rfl rfl rfl (by decide +kernel) ⟨by rw [← hRM]; first | decide | (dsimp only; omega), by rw [← hRM]; first | decide | (dsimp only; omega)⟩) hP hK [1, 2, 3, 4, 5] rfl [0, 1, 2] rfl zN_bl (zN_go hE) (q0 := 0) rfl rfl rfl rfl hl.1 rfl (Nat.le_of_ble_eq_true rfl) dX5_mark_14 ⟨Nat.zero_le _, Nat.zero_le _⟩ ?_
      refine zv_ifne_b (tgt := 23) hx hb dX5_mark_17 (by decide) (fun c_17 => ?_) (fun c_17 => ?_)
      · refine lv_aload_n hx hb dX5_mark_23 rfl (lv_at hl 0 rfl) ?_
        refine lv_iload_n hx hb dX5_mark_24 rfl (lv_at hl 1 rfl) ?_
        refine lv_iload_n hx hb dX5_mark_25 rfl (lv_at hl 2 rfl) ?_
        refine zv_callXV (As := [.int (zI kd), .int (zI k)]) (rest := []) (ws2 := fun u => [(w0, .inr (4, [.ref x0, .ref h0, .ref g0, .ref p0, .ref q0, .ref r0, .int (zI fk), .int (zI sk), .ref t0, .ref b1, .ref b2, .long u])), (h0, .inr (0, [.int (zI n), .ref h1, .ref h2, .ref h3, .ref h4])), (h1, .inl (cI, 9, .inl (zA so))), (h2, .inl (cI, 9, .inl (zA le))), (h3, .inl (cI, 9, .inl (zA ri))), (h4, .inl (cI, 9, .inl (zA ti))), (p0, .inr (1, [.int (zI (pk st)), .int (zI lo), .int (zI li), .int (zI kn), .ref p1, .ref p2])), (p1, .inl (cI, 9, .inl (zA al))), (p2, .inl (cI, 20, .inl (zA ah)))]) ⟨hx, hb, hml, hown, hts⟩ (c_X5_markBody0 l dC dI cI cB cZ w0 x0 h0 g0 p0 q0 r0 fk sk t0 b1 b2 tr h1 h2 h3 h4 n so le ri ti p1 p2 st lo li kn al ah adK adV kt kd k (by exact hh) (by exact hs) (by omega) (by omega) (by omega) (by omega)) (cwV 2 hts gX5_mark_X5_markBody rfl rfl rfl (by decide +kernel) ⟨by rw [← hRM]; first | decide | (dsimp only; omega), by rw [← hRM]; first | decide | (dsimp only; omega)⟩) hP hD hS hA hK [0, 1, 2, 3, 4, 5, 6, 7, 8] rfl (by decide) [0, 1, 2] rfl zX_bl (zX_go hEX hS) (fun _ => rfl) (fun _ => rfl) (q0 := 0) rfl rfl rfl rfl hl.1 rfl (Nat.le_of_ble_eq_true rfl) dX5_mark_26 ⟨Nat.zero_le _, Nat.zero_le _⟩ (fun u H locs hpo hP hD hS => ?_)
        obtain ⟨tr2_26, rfl⟩ : ∃ z, z = u := ⟨_, rfl⟩
        have hp0_26 : tr2_26 = tr + mkT kd := hpo
        have hP : va_P (dC, dI) vwCl [(w0, .inr (4, [.ref x0, .ref h0, .ref g0, .ref p0, .ref q0, .ref r0, .int (zI fk), .int (zI sk), .ref t0, .ref b1, .ref b2, .long tr2_26])), (h0, .inr (0, [.int (zI n), .ref h1, .ref h2, .ref h3, .ref h4])), (h1, .inl (cI, 9, .inl (zA so))), (h2, .inl (cI, 9, .inl (zA le))), (h3, .inl (cI, 9, .inl (zA ri))), (h4, .inl (cI, 9, .inl (zA ti))), (p0, .inr (1, [.int (zI (pk st)), .int (zI lo), .int (zI li), .int (zI kn), .ref p1, .ref p2])), (p1, .inl (cI, 9, .inl (zA al))), (p2, .inl (cI, 20, .inl (zA ah)))] H := hP
        have hD : va_D A [(w0, .inr (4, [.ref x0, .ref h0, .ref g0, .ref p0, .ref q0, .ref r0, .int (zI fk), .int (zI sk), .ref t0, .ref b1, .ref b2, .long tr2_26])), (h0, .inr (0, [.int (zI n), .ref h1, .ref h2, .ref h3, .ref h4])), (h1, .inl (cI, 9, .inl (zA so))), (h2, .inl (cI, 9, .inl (zA le))), (h3, .inl (cI, 9, .inl (zA ri))), (h4, .inl (cI, 9, .inl (zA ti))), (p0, .inr (1, [.int (zI (pk st)), .int (zI lo), .int (zI li), .int (zI kn), .ref p1, .ref p2])), (p1, .inl (cI, 9, .inl (zA al))), (p2, .inl (cI, 20, .inl (zA ah)))] := hD
        refine W.eq (g2 := F0 m 29 ls [.int (zI (q_mark ti st al li kd k))]) rfl ?_
        rw [← hQQ]
        exact zw_iret hx hb hr hlocks (tr2_26) rfl (by exact hp0_26) hP hS dX5_mark_29
      · exfalso; omega
set_option maxHeartbeats 4000000 in
set_option maxRecDepth 100000 in
theorem c_X5_mark1 (l : Launch) (dC : Nat → ClassId) (dI : Nat → Nat → Nat) (cI cB cZ : ClassId) (w0 : Nat) (x0 : Nat) (h0 : Nat) (g0 : Nat) (p0 : Nat) (q0 : Nat) (r0 : Nat) (fk : Int) (sk : Int) (t0 : Nat) (b1 : Nat) (b2 : Nat) (tr : Int64) (h1 : Nat) (h2 : Nat) (h3 : Nat) (h4 : Nat) (n : Int) (so : Int → Int) (le : Int → Int) (ri : Int → Int) (ti : Int → Int) (p1 : Nat) (p2 : Nat) (st : Int → Int) (lo : Int) (li : Int) (kn : Int) (al : Int → Int) (ah : Int → Int) (adK : Nat → Nat) (adV : Nat → Nat) (kt : Nat) (kd : Int) (k : Int) (hh : hOk n so le ri ti) (hs : sOk n so ti st) (hk : -2147483648 ≤ k ∧ k ≤ 2147483647) (hkk : 0 ≤ k ∧ k < n) (hkd : kd = 1 ∨ kd = 2 ∨ kd = 5) (hli : -2147483648 ≤ li ∧ li ≤ 2147483647) : MetX (S := (Int64)) l yX5_mark wsX5_mark ({ frames := 3, cells := 0, slots := 0, locals := 65 }) (dC, dI) vwCl (zT cI cB cZ) (zX adK adV kt) [(w0, .inr (4, [.ref x0, .ref h0, .ref g0, .ref p0, .ref q0, .ref r0, .int (zI fk), .int (zI sk), .ref t0, .ref b1, .ref b2, .long tr])), (h0, .inr (0, [.int (zI n), .ref h1, .ref h2, .ref h3, .ref h4])), (h1, .inl (cI, 9, .inl (zA so))), (h2, .inl (cI, 9, .inl (zA le))), (h3, .inl (cI, 9, .inl (zA ri))), (h4, .inl (cI, 9, .inl (zA ti))), (p0, .inr (1, [.int (zI (pk st)), .int (zI lo), .int (zI li), .int (zI kn), .ref p1, .ref p2])), (p1, .inl (cI, 9, .inl (zA al))), (p2, .inl (cI, 20, .inl (zA ah)))] [.ref w0, .int (zI kd), .int (zI k)] (fun u => some (.int (zI (q_mark ti st al li kd k)))) (fun u => [(w0, .inr (4, [.ref x0, .ref h0, .ref g0, .ref p0, .ref q0, .ref r0, .int (zI fk), .int (zI sk), .ref t0, .ref b1, .ref b2, .long u])), (h0, .inr (0, [.int (zI n), .ref h1, .ref h2, .ref h3, .ref h4])), (h1, .inl (cI, 9, .inl (zA so))), (h2, .inl (cI, 9, .inl (zA le))), (h3, .inl (cI, 9, .inl (zA ri))), (h4, .inl (cI, 9, .inl (zA ti))), (p0, .inr (1, [.int (zI (pk st)), .int (zI lo), .int (zI li), .int (zI kn), .ref p1, .ref p2])), (p1, .inl (cI, 9, .inl (zA al))), (p2, .inl (cI, 20, .inl (zA ah)))]) (fun u => (u = tr + mkT kd)) := by
  refine MetX.intro (cc := cX5_mark) (maxL := 3) (ret := (some .int)) (by decide) rfl (Nat.le_of_ble_eq_true rfl) ?_
  intro p e s m args below meth c A hx hb hr hlocks hml hts hown hP hK hD hS hA hE ls hl
  have hown : s.vm.findClass RX5 = some m.cls := hown
  have hEX := hE
  have hE : zN s := hEX.1
  have hl : lv_has ls 3 [(0, .ref w0), (1, .int (zI kd)), (2, .int (zI k))] := hl
  generalize hRM : ({ frames := 3, cells := 0, slots := 0, locals := 65 } : Room) = RM
  generalize hQQ : MQ below (QW (S := (Int64)) (dC, dI) vwCl A (fun u => some (.int (zI (q_mark ti st al li kd k)))) (fun u => [(w0, .inr (4, [.ref x0, .ref h0, .ref g0, .ref p0, .ref q0, .ref r0, .int (zI fk), .int (zI sk), .ref t0, .ref b1, .ref b2, .long u])), (h0, .inr (0, [.int (zI n), .ref h1, .ref h2, .ref h3, .ref h4])), (h1, .inl (cI, 9, .inl (zA so))), (h2, .inl (cI, 9, .inl (zA le))), (h3, .inl (cI, 9, .inl (zA ri))), (h4, .inl (cI, 9, .inl (zA ti))), (p0, .inr (1, [.int (zI (pk st)), .int (zI lo), .int (zI li), .int (zI kn), .ref p1, .ref p2])), (p1, .inl (cI, 9, .inl (zA al))), (p2, .inl (cI, 20, .inl (zA ah)))]) (fun u => (u = tr + mkT kd))) args s 0 0 A = QQ
  have in_X5 : ∀ w ∈ wsX50, w ∈ wsX5_mark := by decide +kernel
  have w_0 := hts (.fieldLink RX5 19 "WallMarbles" "built" "LWallMarbles$House;") (by decide +kernel)
  have hn := hh.1
  refine lv_iload_n hx hb dX5_mark_0 rfl (lv_at hl 1 rfl) ?_
  refine zv_if_lt (tgt := 20) hx hb (by omega) dX5_mark_1 (by decide) (fun c_1 => ?_) (fun c_1 => ?_)
  · exfalso; omega
  · refine lv_iload_n hx hb dX5_mark_4 rfl (lv_at hl 1 rfl) ?_
    refine zv_iconst hx hb dX5_mark_5 ?_
    refine zv_icmp_gt (tgt := 20) hx hb (by omega) (by omega) dX5_mark_6 (by decide) (fun c_6 => ?_) (fun c_6 => ?_)
    · exfalso; omega
    · refine lv_aload_n hx hb dX5_mark_9 rfl (lv_at hl 0 rfl) ?_
      refine va_get (D := (dC, dI)) (ci := 4) (v := .ref h0) (C := RX5) (T := TX5) (N := 12) hx hb hts in_X5 hown hK hP 0 rfl rfl 1 (by decide) w_0 (fun _ h9 => h9) rfl dX5_mark_10 ?_
      refine lv_iload_n hx hb dX5_mark_13 rfl (lv_at hl 2 rfl) ?_
      refine zv_callRV (As := [.int (zI k)]) (rest := []) ⟨hx, hb, hml, hown, hts⟩ (c_X0_has l dC dI cI cB cZ h0 h1 h2 h3 h4 n so le ri ti k (by omega) (by omega)) (cwV 1 hts gX5_mark_X0_has rfl rfl rfl (by decide +kernel) ⟨by rw [← hRM]; first | decide | (dsimp only; omega), by rw [← hRM]; first | decide | (dsimp only; omega)⟩) hP hK [1, 2, 3, 4, 5] rfl [0, 1, 2] rfl zN_bl (zN_go hE) (q0 := 0) rfl rfl rfl rfl hl.1 rfl (Nat.le_of_ble_eq_true rfl) dX5_mark_14 ⟨Nat.zero_le _, Nat.zero_le _⟩ ?_
      refine zv_ifne_b (tgt := 23) hx hb dX5_mark_17 (by decide) (fun c_17 => ?_) (fun c_17 => ?_)
      · refine lv_aload_n hx hb dX5_mark_23 rfl (lv_at hl 0 rfl) ?_
        refine lv_iload_n hx hb dX5_mark_24 rfl (lv_at hl 1 rfl) ?_
        refine lv_iload_n hx hb dX5_mark_25 rfl (lv_at hl 2 rfl) ?_
        refine zv_callXV (As := [.int (zI kd), .int (zI k)]) (rest := []) (ws2 := fun u => [(w0, .inr (4, [.ref x0, .ref h0, .ref g0, .ref p0, .ref q0, .ref r0, .int (zI fk), .int (zI sk), .ref t0, .ref b1, .ref b2, .long u])), (h0, .inr (0, [.int (zI n), .ref h1, .ref h2, .ref h3, .ref h4])), (h1, .inl (cI, 9, .inl (zA so))), (h2, .inl (cI, 9, .inl (zA le))), (h3, .inl (cI, 9, .inl (zA ri))), (h4, .inl (cI, 9, .inl (zA ti))), (p0, .inr (1, [.int (zI (pk st)), .int (zI lo), .int (zI li), .int (zI kn), .ref p1, .ref p2])), (p1, .inl (cI, 9, .inl (zA al))), (p2, .inl (cI, 20, .inl (zA ah)))]) ⟨hx, hb, hml, hown, hts⟩ (c_X5_markBody1 l dC dI cI cB cZ w0 x0 h0 g0 p0 q0 r0 fk sk t0 b1 b2 tr h1 h2 h3 h4 n so le ri ti p1 p2 st lo li kn al ah adK adV kt kd k (by exact hh) (by exact hs) (by omega) (by omega) (by omega) (by omega)) (cwV 2 hts gX5_mark_X5_markBody rfl rfl rfl (by decide +kernel) ⟨by rw [← hRM]; first | decide | (dsimp only; omega), by rw [← hRM]; first | decide | (dsimp only; omega)⟩) hP hD hS hA hK [0, 1, 2, 3, 4, 5, 6, 7, 8] rfl (by decide) [0, 1, 2] rfl zX_bl (zX_go hEX hS) (fun _ => rfl) (fun _ => rfl) (q0 := 0) rfl rfl rfl rfl hl.1 rfl (Nat.le_of_ble_eq_true rfl) dX5_mark_26 ⟨Nat.zero_le _, Nat.zero_le _⟩ (fun u H locs hpo hP hD hS => ?_)
        obtain ⟨tr2_26, rfl⟩ : ∃ z, z = u := ⟨_, rfl⟩
        have hp0_26 : tr2_26 = tr + mkT kd := hpo
        have hP : va_P (dC, dI) vwCl [(w0, .inr (4, [.ref x0, .ref h0, .ref g0, .ref p0, .ref q0, .ref r0, .int (zI fk), .int (zI sk), .ref t0, .ref b1, .ref b2, .long tr2_26])), (h0, .inr (0, [.int (zI n), .ref h1, .ref h2, .ref h3, .ref h4])), (h1, .inl (cI, 9, .inl (zA so))), (h2, .inl (cI, 9, .inl (zA le))), (h3, .inl (cI, 9, .inl (zA ri))), (h4, .inl (cI, 9, .inl (zA ti))), (p0, .inr (1, [.int (zI (pk st)), .int (zI lo), .int (zI li), .int (zI kn), .ref p1, .ref p2])), (p1, .inl (cI, 9, .inl (zA al))), (p2, .inl (cI, 20, .inl (zA ah)))] H := hP
        have hD : va_D A [(w0, .inr (4, [.ref x0, .ref h0, .ref g0, .ref p0, .ref q0, .ref r0, .int (zI fk), .int (zI sk), .ref t0, .ref b1, .ref b2, .long tr2_26])), (h0, .inr (0, [.int (zI n), .ref h1, .ref h2, .ref h3, .ref h4])), (h1, .inl (cI, 9, .inl (zA so))), (h2, .inl (cI, 9, .inl (zA le))), (h3, .inl (cI, 9, .inl (zA ri))), (h4, .inl (cI, 9, .inl (zA ti))), (p0, .inr (1, [.int (zI (pk st)), .int (zI lo), .int (zI li), .int (zI kn), .ref p1, .ref p2])), (p1, .inl (cI, 9, .inl (zA al))), (p2, .inl (cI, 20, .inl (zA ah)))] := hD
        refine W.eq (g2 := F0 m 29 ls [.int (zI (q_mark ti st al li kd k))]) rfl ?_
        rw [← hQQ]
        exact zw_iret hx hb hr hlocks (tr2_26) rfl (by exact hp0_26) hP hS dX5_mark_29
      · exfalso; omega
set_option maxHeartbeats 4000000 in
set_option maxRecDepth 100000 in
theorem c_X5_mark2 (l : Launch) (dC : Nat → ClassId) (dI : Nat → Nat → Nat) (cI cB cZ : ClassId) (w0 : Nat) (x0 : Nat) (h0 : Nat) (g0 : Nat) (p0 : Nat) (q0 : Nat) (r0 : Nat) (fk : Int) (sk : Int) (t0 : Nat) (b1 : Nat) (b2 : Nat) (tr : Int64) (h1 : Nat) (h2 : Nat) (h3 : Nat) (h4 : Nat) (n : Int) (so : Int → Int) (le : Int → Int) (ri : Int → Int) (ti : Int → Int) (p1 : Nat) (p2 : Nat) (st : Int → Int) (lo : Int) (li : Int) (kn : Int) (al : Int → Int) (ah : Int → Int) (adK : Nat → Nat) (adV : Nat → Nat) (kt : Nat) (kd : Int) (k : Int) (hh : hOk n so le ri ti) (hs : sOk n so ti st) (hk : -2147483648 ≤ k ∧ k ≤ 2147483647) (hkk : 0 ≤ k ∧ k < n) (hkd : kd = 3 ∨ kd = 4) (hli : -2147483648 ≤ li ∧ li ≤ 2147483647) : MetX (S := (Int64)) l yX5_mark wsX5_mark ({ frames := 4, cells := 0, slots := 0, locals := 87 }) (dC, dI) vwCl (zT cI cB cZ) (zX adK adV kt) [(w0, .inr (4, [.ref x0, .ref h0, .ref g0, .ref p0, .ref q0, .ref r0, .int (zI fk), .int (zI sk), .ref t0, .ref b1, .ref b2, .long tr])), (h0, .inr (0, [.int (zI n), .ref h1, .ref h2, .ref h3, .ref h4])), (h1, .inl (cI, 9, .inl (zA so))), (h2, .inl (cI, 9, .inl (zA le))), (h3, .inl (cI, 9, .inl (zA ri))), (h4, .inl (cI, 9, .inl (zA ti))), (p0, .inr (1, [.int (zI (pk st)), .int (zI lo), .int (zI li), .int (zI kn), .ref p1, .ref p2])), (p1, .inl (cI, 9, .inl (zA al))), (p2, .inl (cI, 20, .inl (zA ah)))] [.ref w0, .int (zI kd), .int (zI k)] (fun u => some (.int (zI (q_mark ti st al li kd k)))) (fun u => [(w0, .inr (4, [.ref x0, .ref h0, .ref g0, .ref p0, .ref q0, .ref r0, .int (zI fk), .int (zI sk), .ref t0, .ref b1, .ref b2, .long u])), (h0, .inr (0, [.int (zI n), .ref h1, .ref h2, .ref h3, .ref h4])), (h1, .inl (cI, 9, .inl (zA so))), (h2, .inl (cI, 9, .inl (zA le))), (h3, .inl (cI, 9, .inl (zA ri))), (h4, .inl (cI, 9, .inl (zA ti))), (p0, .inr (1, [.int (zI (pk st)), .int (zI lo), .int (zI li), .int (zI kn), .ref p1, .ref p2])), (p1, .inl (cI, 9, .inl (zA al))), (p2, .inl (cI, 20, .inl (zA ah)))]) (fun u => (u = tr + mkT kd)) := by
  refine MetX.intro (cc := cX5_mark) (maxL := 3) (ret := (some .int)) (by decide) rfl (Nat.le_of_ble_eq_true rfl) ?_
  intro p e s m args below meth c A hx hb hr hlocks hml hts hown hP hK hD hS hA hE ls hl
  have hown : s.vm.findClass RX5 = some m.cls := hown
  have hEX := hE
  have hE : zN s := hEX.1
  have hl : lv_has ls 3 [(0, .ref w0), (1, .int (zI kd)), (2, .int (zI k))] := hl
  generalize hRM : ({ frames := 4, cells := 0, slots := 0, locals := 87 } : Room) = RM
  generalize hQQ : MQ below (QW (S := (Int64)) (dC, dI) vwCl A (fun u => some (.int (zI (q_mark ti st al li kd k)))) (fun u => [(w0, .inr (4, [.ref x0, .ref h0, .ref g0, .ref p0, .ref q0, .ref r0, .int (zI fk), .int (zI sk), .ref t0, .ref b1, .ref b2, .long u])), (h0, .inr (0, [.int (zI n), .ref h1, .ref h2, .ref h3, .ref h4])), (h1, .inl (cI, 9, .inl (zA so))), (h2, .inl (cI, 9, .inl (zA le))), (h3, .inl (cI, 9, .inl (zA ri))), (h4, .inl (cI, 9, .inl (zA ti))), (p0, .inr (1, [.int (zI (pk st)), .int (zI lo), .int (zI li), .int (zI kn), .ref p1, .ref p2])), (p1, .inl (cI, 9, .inl (zA al))), (p2, .inl (cI, 20, .inl (zA ah)))]) (fun u => (u = tr + mkT kd))) args s 0 0 A = QQ
  have in_X5 : ∀ w ∈ wsX50, w ∈ wsX5_mark := by decide +kernel
  have w_0 := hts (.fieldLink RX5 19 "WallMarbles" "built" "LWallMarbles$House;") (by decide +kernel)
  have hn := hh.1
  refine lv_iload_n hx hb dX5_mark_0 rfl (lv_at hl 1 rfl) ?_
  refine zv_if_lt (tgt := 20) hx hb (by omega) dX5_mark_1 (by decide) (fun c_1 => ?_) (fun c_1 => ?_)
  · exfalso; omega
  · refine lv_iload_n hx hb dX5_mark_4 rfl (lv_at hl 1 rfl) ?_
    refine zv_iconst hx hb dX5_mark_5 ?_
    refine zv_icmp_gt (tgt := 20) hx hb (by omega) (by omega) dX5_mark_6 (by decide) (fun c_6 => ?_) (fun c_6 => ?_)
    · exfalso; omega
    · refine lv_aload_n hx hb dX5_mark_9 rfl (lv_at hl 0 rfl) ?_
      refine va_get (D := (dC, dI)) (ci := 4) (v := .ref h0) (C := RX5) (T := TX5) (N := 12) hx hb hts in_X5 hown hK hP 0 rfl rfl 1 (by decide) w_0 (fun _ h9 => h9) rfl dX5_mark_10 ?_
      refine lv_iload_n hx hb dX5_mark_13 rfl (lv_at hl 2 rfl) ?_
      refine zv_callRV (As := [.int (zI k)]) (rest := []) ⟨hx, hb, hml, hown, hts⟩ (c_X0_has l dC dI cI cB cZ h0 h1 h2 h3 h4 n so le ri ti k (by omega) (by omega)) (cwV 1 hts gX5_mark_X0_has rfl rfl rfl (by decide +kernel) ⟨by rw [← hRM]; first | decide | (dsimp only; omega), by rw [← hRM]; first | decide | (dsimp only; omega)⟩) hP hK [1, 2, 3, 4, 5] rfl [0, 1, 2] rfl zN_bl (zN_go hE) (q0 := 0) rfl rfl rfl rfl hl.1 rfl (Nat.le_of_ble_eq_true rfl) dX5_mark_14 ⟨Nat.zero_le _, Nat.zero_le _⟩ ?_
      refine zv_ifne_b (tgt := 23) hx hb dX5_mark_17 (by decide) (fun c_17 => ?_) (fun c_17 => ?_)
      · refine lv_aload_n hx hb dX5_mark_23 rfl (lv_at hl 0 rfl) ?_
        refine lv_iload_n hx hb dX5_mark_24 rfl (lv_at hl 1 rfl) ?_
        refine lv_iload_n hx hb dX5_mark_25 rfl (lv_at hl 2 rfl) ?_
        refine zv_callXV (As := [.int (zI kd), .int (zI k)]) (rest := []) (ws2 := fun u => [(w0, .inr (4, [.ref x0, .ref h0, .ref g0, .ref p0, .ref q0, .ref r0, .int (zI fk), .int (zI sk), .ref t0, .ref b1, .ref b2, .long u])), (h0, .inr (0, [.int (zI n), .ref h1, .ref h2, .ref h3, .ref h4])), (h1, .inl (cI, 9, .inl (zA so))), (h2, .inl (cI, 9, .inl (zA le))), (h3, .inl (cI, 9, .inl (zA ri))), (h4, .inl (cI, 9, .inl (zA ti))), (p0, .inr (1, [.int (zI (pk st)), .int (zI lo), .int (zI li), .int (zI kn), .ref p1, .ref p2])), (p1, .inl (cI, 9, .inl (zA al))), (p2, .inl (cI, 20, .inl (zA ah)))]) ⟨hx, hb, hml, hown, hts⟩ (c_X5_markBody2 l dC dI cI cB cZ w0 x0 h0 g0 p0 q0 r0 fk sk t0 b1 b2 tr h1 h2 h3 h4 n so le ri ti p1 p2 st lo li kn al ah adK adV kt kd k (by exact hh) (by exact hs) (by omega) (by omega) (by omega) (by omega)) (cwV 2 hts gX5_mark_X5_markBody rfl rfl rfl (by decide +kernel) ⟨by rw [← hRM]; first | decide | (dsimp only; omega), by rw [← hRM]; first | decide | (dsimp only; omega)⟩) hP hD hS hA hK [0, 1, 2, 3, 4, 5, 6, 7, 8] rfl (by decide) [0, 1, 2] rfl zX_bl (zX_go hEX hS) (fun _ => rfl) (fun _ => rfl) (q0 := 0) rfl rfl rfl rfl hl.1 rfl (Nat.le_of_ble_eq_true rfl) dX5_mark_26 ⟨Nat.zero_le _, Nat.zero_le _⟩ (fun u H locs hpo hP hD hS => ?_)
        obtain ⟨tr2_26, rfl⟩ : ∃ z, z = u := ⟨_, rfl⟩
        have hp0_26 : tr2_26 = tr + mkT kd := hpo
        have hP : va_P (dC, dI) vwCl [(w0, .inr (4, [.ref x0, .ref h0, .ref g0, .ref p0, .ref q0, .ref r0, .int (zI fk), .int (zI sk), .ref t0, .ref b1, .ref b2, .long tr2_26])), (h0, .inr (0, [.int (zI n), .ref h1, .ref h2, .ref h3, .ref h4])), (h1, .inl (cI, 9, .inl (zA so))), (h2, .inl (cI, 9, .inl (zA le))), (h3, .inl (cI, 9, .inl (zA ri))), (h4, .inl (cI, 9, .inl (zA ti))), (p0, .inr (1, [.int (zI (pk st)), .int (zI lo), .int (zI li), .int (zI kn), .ref p1, .ref p2])), (p1, .inl (cI, 9, .inl (zA al))), (p2, .inl (cI, 20, .inl (zA ah)))] H := hP
        have hD : va_D A [(w0, .inr (4, [.ref x0, .ref h0, .ref g0, .ref p0, .ref q0, .ref r0, .int (zI fk), .int (zI sk), .ref t0, .ref b1, .ref b2, .long tr2_26])), (h0, .inr (0, [.int (zI n), .ref h1, .ref h2, .ref h3, .ref h4])), (h1, .inl (cI, 9, .inl (zA so))), (h2, .inl (cI, 9, .inl (zA le))), (h3, .inl (cI, 9, .inl (zA ri))), (h4, .inl (cI, 9, .inl (zA ti))), (p0, .inr (1, [.int (zI (pk st)), .int (zI lo), .int (zI li), .int (zI kn), .ref p1, .ref p2])), (p1, .inl (cI, 9, .inl (zA al))), (p2, .inl (cI, 20, .inl (zA ah)))] := hD
        refine W.eq (g2 := F0 m 29 ls [.int (zI (q_mark ti st al li kd k))]) rfl ?_
        rw [← hQQ]
        exact zw_iret hx hb hr hlocks (tr2_26) rfl (by exact hp0_26) hP hS dX5_mark_29
      · exfalso; omega
