/-! what the calls answer -/
def q_part (n : Int) (so le ri ti st al : Int → Int) (k w : Int) : Int :=
  if 0 ≤ k ∧ k < n then (if w = 0 then so k else if w = 1 then le k else if w = 2 then ri k else if w = 3 then ti k else if w = 4 then st k else if w = 5 then al k else -1) else -1
def q_letN (n li sz : Int) : Int := if sz = 0 ∨ sz = 1 then (if n = 0 then -2 else -3) else -1
def q_now (n : Int) (so st : Int → Int) (lo li : Int) (al : Int → Int) (w : Int) : Int := if w = 0 then li else if w = 1 then sF al 9 else if w = 2 then lo else if w = 3 then sF (gC so st) n.toNat else -1
def q_triN (n : Int) (so : Int → Int) (tn sz cm : Int) : Int := if (sz = 0 ∨ sz = 1) ∧ (cm = -9 ∨ ((0 ≤ cm ∧ cm < n) ∧ so cm = 0)) then -3 else -1
def q_count (n : Int) (so : Int → Int) (tn kn ln w : Int) : Int := if w = 0 then n else if w = 1 then sF (gL so) n.toNat else if w = 2 then tn else if w = 3 then kn else if w = 4 then ln else -1
def q_called (so le ri ti : Int → Int) (lo n : Int) (st : Int → Int) (w : Int) : Int := if 0 ≤ w ∧ w ≤ 9 then (if n = 0 then -2 else coS so le ri ti lo n st w.toNat (fun _ => 0)) else -1
set_option maxHeartbeats 4000000 in
set_option maxRecDepth 100000 in
theorem c_X5_part (l : Launch) (dC : Nat → ClassId) (dI : Nat → Nat → Nat) (cI cB cZ : ClassId) (w0 : Nat) (x0 : Nat) (h0 : Nat) (g0 : Nat) (p0 : Nat) (q0 : Nat) (r0 : Nat) (fk : Int) (sk : Int) (t0 : Nat) (b1 : Nat) (b2 : Nat) (tr : Int64) (h1 : Nat) (h2 : Nat) (h3 : Nat) (h4 : Nat) (n : Int) (so : Int → Int) (le : Int → Int) (ri : Int → Int) (ti : Int → Int) (p1 : Nat) (p2 : Nat) (st : Int → Int) (lo : Int) (li : Int) (kn : Int) (al : Int → Int) (ah : Int → Int) (k : Int) (w : Int) (hh : hOk n so le ri ti) (hs : sOk n so ti st) (hk : -2147483648 ≤ k ∧ k ≤ 2147483647) (hwr : -2147483648 ≤ w ∧ w ≤ 2147483647) : MetR l yX5_part wsX5_part ({ frames := 2, cells := 0, slots := 0, locals := 42 }) (dC, dI) vwCl (zT cI cB cZ) zN [(w0, .inr (4, [.ref x0, .ref h0, .ref g0, .ref p0, .ref q0, .ref r0, .int (zI fk), .int (zI sk), .ref t0, .ref b1, .ref b2, .long tr])), (h0, .inr (0, [.int (zI n), .ref h1, .ref h2, .ref h3, .ref h4])), (h1, .inl (cI, 9, .inl (zA so))), (h2, .inl (cI, 9, .inl (zA le))), (h3, .inl (cI, 9, .inl (zA ri))), (h4, .inl (cI, 9, .inl (zA ti))), (p0, .inr (1, [.int (zI (pk st)), .int (zI lo), .int (zI li), .int (zI kn), .ref p1, .ref p2])), (p1, .inl (cI, 9, .inl (zA al))), (p2, .inl (cI, 20, .inl (zA ah)))] [.ref w0, .int (zI k), .int (zI w)] (zI (q_part n so le ri ti st al k w)) := by
  refine MetR.intro (cc := cX5_part) (maxL := 3) (ret := (some .int)) (by decide) rfl (Nat.le_of_ble_eq_true rfl) ?_
  intro p e s m args below meth c hx hb hr hlocks hml hts hown hP hK hE ls hl
  have hown : s.vm.findClass RX5 = some m.cls := hown
  have hl : lv_has ls 3 [(0, .ref w0), (1, .int (zI k)), (2, .int (zI w))] := hl
  generalize hRM : ({ frames := 2, cells := 0, slots := 0, locals := 42 } : Room) = RM
  generalize hQQ : MQ below (vp_Si (fun r => r = zI (q_part n so le ri ti st al k w))) args s 0 0 (fun _ => False) = QQ
  have in_X1 : ∀ w ∈ wsX10, w ∈ wsX5_part := by decide +kernel
  have in_X5 : ∀ w ∈ wsX50, w ∈ wsX5_part := by decide +kernel
  have w_0 := hts (.fieldLink RX5 19 "WallMarbles" "built" "LWallMarbles$House;") (by decide +kernel)
  have w_1 := hts (.fieldLink RX5 29 "WallMarbles" "present" "LWallMarbles$Present;") (by decide +kernel)
  have n_98 := va_Nw.use (A := args) rfl (zN_3 hE)
  have hn := hh.1
  refine lv_aload_n hx hb dX5_part_0 rfl (lv_at hl 0 rfl) ?_
  refine va_get (D := (dC, dI)) (ci := 4) (v := .ref h0) (C := RX5) (T := TX5) (N := 12) hx hb hts in_X5 hown hK hP 0 rfl rfl 1 (by decide) w_0 (fun _ h9 => h9) rfl dX5_part_1 ?_
  refine lv_iload_n hx hb dX5_part_4 rfl (lv_at hl 1 rfl) ?_
  refine zv_callRV (As := [.int (zI k)]) (rest := []) ⟨hx, hb, hml, hown, hts⟩ (c_X0_has l dC dI cI cB cZ h0 h1 h2 h3 h4 n so le ri ti k (by omega) (by omega)) (cwV 1 hts gX5_part_X0_has rfl rfl rfl (by decide +kernel) ⟨by rw [← hRM]; first | decide | (dsimp only; omega), by rw [← hRM]; first | decide | (dsimp only; omega)⟩) hP hK [1, 2, 3, 4, 5] rfl [0, 1, 2] rfl zN_bl (zN_go hE) (q0 := 0) rfl rfl rfl rfl hl.1 rfl (Nat.le_of_ble_eq_true rfl) dX5_part_5 ⟨Nat.zero_le _, Nat.zero_le _⟩ ?_
  refine zv_ifeq_b (tgt := 20) hx hb dX5_part_8 (by decide) (fun c_8 => ?_) (fun c_8 => ?_)
  · refine zv_iconst hx hb dX5_part_20 ?_
    rw [← hQQ]
    exact zr_iret hx hb hr hlocks (congrArg zI (show (-1) = q_part n so le ri ti st al k w from by unfold q_part; (repeat' split) <;> first | rfl | omega)) dX5_part_21
  · refine lv_iload_n hx hb dX5_part_11 rfl (lv_at hl 2 rfl) ?_
    refine zv_if_lt (tgt := 20) hx hb (by omega) dX5_part_12 (by decide) (fun c_12 => ?_) (fun c_12 => ?_)
    · refine zv_iconst hx hb dX5_part_20 ?_
      rw [← hQQ]
      exact zr_iret hx hb hr hlocks (congrArg zI (show (-1) = q_part n so le ri ti st al k w from by unfold q_part; (repeat' split) <;> first | rfl | omega)) dX5_part_21
    · refine lv_iload_n hx hb dX5_part_15 rfl (lv_at hl 2 rfl) ?_
      refine zv_iconst hx hb dX5_part_16 ?_
      refine zv_icmp_le (tgt := 22) hx hb (by omega) (by omega) dX5_part_17 (by decide) (fun c_17 => ?_) (fun c_17 => ?_)
      · refine lv_iload_n hx hb dX5_part_22 rfl (lv_at hl 2 rfl) ?_
        rcases (show w = 0 ∨ w = 1 ∨ w = 2 ∨ w = 3 ∨ w = 4 ∨ (w < 0 ∨ 4 < w) by omega) with c_23 | c_23 | c_23 | c_23 | c_23 | c_23
        · refine zv_tableIn (k := 0) (tgt := 56) hx hb (by omega) c_23 (by omega) dX5_part_23 rfl (by decide) ?_
          refine lv_aload_n hx hb dX5_part_56 rfl (lv_at hl 0 rfl) ?_
          refine va_get (D := (dC, dI)) (ci := 4) (v := .ref h0) (C := RX5) (T := TX5) (N := 12) hx hb hts in_X5 hown hK hP 0 rfl rfl 1 (by decide) w_0 (fun _ h9 => h9) rfl dX5_part_57 ?_
          refine lv_iload_n hx hb dX5_part_60 rfl (lv_at hl 1 rfl) ?_
          refine zv_callRV (As := [.int (zI k)]) (rest := []) ⟨hx, hb, hml, hown, hts⟩ (c_X0_sortOf l dC dI cI cB cZ h0 h1 h2 h3 h4 n so le ri ti k (by omega) (by omega)) (cwV 1 hts gX5_part_X0_sortOf rfl rfl rfl (by decide +kernel) ⟨by rw [← hRM]; first | decide | (dsimp only; omega), by rw [← hRM]; first | decide | (dsimp only; omega)⟩) hP hK [1, 2, 3, 4, 5] rfl [0, 1, 2] rfl zN_bl (zN_go hE) (q0 := 0) rfl rfl rfl rfl hl.1 rfl (Nat.le_of_ble_eq_true rfl) dX5_part_61 ⟨Nat.zero_le _, Nat.zero_le _⟩ ?_
          rw [show (if 0 ≤ k ∧ k < n then so k else -9) = so k from if_pos c_8]
          rw [← hQQ]
          exact zr_iret hx hb hr hlocks (congrArg zI (show so k = q_part n so le ri ti st al k w from by unfold q_part; (repeat' split) <;> first | rfl | omega)) dX5_part_64
        · refine zv_tableIn (k := 1) (tgt := 65) hx hb (by omega) c_23 (by omega) dX5_part_23 rfl (by decide) ?_
          refine lv_aload_n hx hb dX5_part_65 rfl (lv_at hl 0 rfl) ?_
          refine va_get (D := (dC, dI)) (ci := 4) (v := .ref h0) (C := RX5) (T := TX5) (N := 12) hx hb hts in_X5 hown hK hP 0 rfl rfl 1 (by decide) w_0 (fun _ h9 => h9) rfl dX5_part_66 ?_
          refine lv_iload_n hx hb dX5_part_69 rfl (lv_at hl 1 rfl) ?_
          refine zv_callRV (As := [.int (zI k)]) (rest := []) ⟨hx, hb, hml, hown, hts⟩ (c_X0_leftOf l dC dI cI cB cZ h0 h1 h2 h3 h4 n so le ri ti k (by omega) (by omega)) (cwV 1 hts gX5_part_X0_leftOf rfl rfl rfl (by decide +kernel) ⟨by rw [← hRM]; first | decide | (dsimp only; omega), by rw [← hRM]; first | decide | (dsimp only; omega)⟩) hP hK [1, 2, 3, 4, 5] rfl [0, 1, 2] rfl zN_bl (zN_go hE) (q0 := 0) rfl rfl rfl rfl hl.1 rfl (Nat.le_of_ble_eq_true rfl) dX5_part_70 ⟨Nat.zero_le _, Nat.zero_le _⟩ ?_
          rw [show (if 0 ≤ k ∧ k < n then le k else -9) = le k from if_pos c_8]
          rw [← hQQ]
          exact zr_iret hx hb hr hlocks (congrArg zI (show le k = q_part n so le ri ti st al k w from by unfold q_part; (repeat' split) <;> first | rfl | omega)) dX5_part_73
        · refine zv_tableIn (k := 2) (tgt := 74) hx hb (by omega) c_23 (by omega) dX5_part_23 rfl (by decide) ?_
          refine lv_aload_n hx hb dX5_part_74 rfl (lv_at hl 0 rfl) ?_
          refine va_get (D := (dC, dI)) (ci := 4) (v := .ref h0) (C := RX5) (T := TX5) (N := 12) hx hb hts in_X5 hown hK hP 0 rfl rfl 1 (by decide) w_0 (fun _ h9 => h9) rfl dX5_part_75 ?_
          refine lv_iload_n hx hb dX5_part_78 rfl (lv_at hl 1 rfl) ?_
          refine zv_callRV (As := [.int (zI k)]) (rest := []) ⟨hx, hb, hml, hown, hts⟩ (c_X0_rightOf l dC dI cI cB cZ h0 h1 h2 h3 h4 n so le ri ti k (by omega) (by omega)) (cwV 1 hts gX5_part_X0_rightOf rfl rfl rfl (by decide +kernel) ⟨by rw [← hRM]; first | decide | (dsimp only; omega), by rw [← hRM]; first | decide | (dsimp only; omega)⟩) hP hK [1, 2, 3, 4, 5] rfl [0, 1, 2] rfl zN_bl (zN_go hE) (q0 := 0) rfl rfl rfl rfl hl.1 rfl (Nat.le_of_ble_eq_true rfl) dX5_part_79 ⟨Nat.zero_le _, Nat.zero_le _⟩ ?_
          rw [show (if 0 ≤ k ∧ k < n then ri k else -9) = ri k from if_pos c_8]
          rw [← hQQ]
          exact zr_iret hx hb hr hlocks (congrArg zI (show ri k = q_part n so le ri ti st al k w from by unfold q_part; (repeat' split) <;> first | rfl | omega)) dX5_part_82
        · refine zv_tableIn (k := 3) (tgt := 83) hx hb (by omega) c_23 (by omega) dX5_part_23 rfl (by decide) ?_
          refine lv_aload_n hx hb dX5_part_83 rfl (lv_at hl 0 rfl) ?_
          refine va_get (D := (dC, dI)) (ci := 4) (v := .ref h0) (C := RX5) (T := TX5) (N := 12) hx hb hts in_X5 hown hK hP 0 rfl rfl 1 (by decide) w_0 (fun _ h9 => h9) rfl dX5_part_84 ?_
          refine lv_iload_n hx hb dX5_part_87 rfl (lv_at hl 1 rfl) ?_
          refine zv_callRV (As := [.int (zI k)]) (rest := []) ⟨hx, hb, hml, hown, hts⟩ (c_X0_turnOf l dC dI cI cB cZ h0 h1 h2 h3 h4 n so le ri ti k (by omega) (by omega)) (cwV 1 hts gX5_part_X0_turnOf rfl rfl rfl (by decide +kernel) ⟨by rw [← hRM]; first | decide | (dsimp only; omega), by rw [← hRM]; first | decide | (dsimp only; omega)⟩) hP hK [1, 2, 3, 4, 5] rfl [0, 1, 2] rfl zN_bl (zN_go hE) (q0 := 0) rfl rfl rfl rfl hl.1 rfl (Nat.le_of_ble_eq_true rfl) dX5_part_88 ⟨Nat.zero_le _, Nat.zero_le _⟩ ?_
          rw [show (if 0 ≤ k ∧ k < n then ti k else 0) = ti k from if_pos c_8]
          rw [← hQQ]
          exact zr_iret hx hb hr hlocks (congrArg zI (show ti k = q_part n so le ri ti st al k w from by unfold q_part; (repeat' split) <;> first | rfl | omega)) dX5_part_91
        · refine zv_tableIn (k := 4) (tgt := 92) hx hb (by omega) c_23 (by omega) dX5_part_23 rfl (by decide) ?_
          refine lv_aload_n hx hb dX5_part_92 rfl (lv_at hl 0 rfl) ?_
          refine va_get (D := (dC, dI)) (ci := 4) (v := .ref p0) (C := RX5) (T := TX5) (N := 12) hx hb hts in_X5 hown hK hP 0 rfl rfl 3 (by decide) w_1 (fun _ h9 => h9) rfl dX5_part_93 ?_
          refine va_getN (D := (dC, dI)) (ci := 1) (v := .int (zI (pk st))) (C := RX1) (T := TX1) (N := 6) hx hb hts in_X1 hown hK hP 6 rfl rfl 0 (by decide) n_98 (fun _ h9 => h9) rfl dX5_part_96 ?_
          refine lv_iload_n hx hb dX5_part_99 rfl (lv_at hl 1 rfl) ?_
          refine zv_callRS (As := [.int (zI (pk st)), .int (zI k)]) (rest := []) ⟨hx, hb, hml, hown, hts⟩ (c_X2_standAt l dC dI cI cB cZ st k (by exact sOk_s7 hh hs) (by omega)) (va_cwS 2 hts gX5_part_X2_standAt rfl rfl rfl (by decide +kernel) ⟨by rw [← hRM]; first | decide | (dsimp only; omega), by rw [← hRM]; first | decide | (dsimp only; omega)⟩) hP hK [] rfl [0, 1, 2] rfl zN_bl (zN_go hE) rfl hl.1 rfl (Nat.le_of_ble_eq_true rfl) dX5_part_100 ⟨Nat.zero_le _, Nat.zero_le _⟩ ?_
          rw [← hQQ]
          exact zr_iret hx hb hr hlocks (congrArg zI (show st k = q_part n so le ri ti st al k w from by unfold q_part; (repeat' split) <;> first | rfl | omega)) dX5_part_103
        · refine zv_tableOut (tgt := 104) hx hb (by omega) c_23 dX5_part_23 (by decide) ?_
          refine lv_aload_n hx hb dX5_part_104 rfl (lv_at hl 0 rfl) ?_
          refine va_get (D := (dC, dI)) (ci := 4) (v := .ref p0) (C := RX5) (T := TX5) (N := 12) hx hb hts in_X5 hown hK hP 0 rfl rfl 3 (by decide) w_1 (fun _ h9 => h9) rfl dX5_part_105 ?_
          refine lv_iload_n hx hb dX5_part_108 rfl (lv_at hl 1 rfl) ?_
          refine zv_callRV (As := [.int (zI k)]) (rest := []) ⟨hx, hb, hml, hown, hts⟩ (c_X1_atPart l dC dI cI cB cZ p0 p1 p2 (pk st) lo li kn al ah k (by omega)) (cwV 1 hts gX5_part_X1_atPart rfl rfl rfl (by decide +kernel) ⟨by rw [← hRM]; first | decide | (dsimp only; omega), by rw [← hRM]; first | decide | (dsimp only; omega)⟩) hP hK [6, 7, 8] rfl [0, 1, 2] rfl zN_bl (zN_go hE) (q0 := 0) rfl rfl rfl rfl hl.1 rfl (Nat.le_of_ble_eq_true rfl) dX5_part_109 ⟨Nat.zero_le _, Nat.zero_le _⟩ ?_
          rw [show (if 0 ≤ k ∧ k < 9 then al k else 0) = al k from if_pos (by omega)]
          rw [← hQQ]
          exact zr_iret hx hb hr hlocks (congrArg zI (show al k = q_part n so le ri ti st al k w from by unfold q_part; (repeat' split) <;> first | rfl | omega)) dX5_part_112
      · refine zv_iconst hx hb dX5_part_20 ?_
        rw [← hQQ]
        exact zr_iret hx hb hr hlocks (congrArg zI (show (-1) = q_part n so le ri ti st al k w from by unfold q_part; (repeat' split) <;> first | rfl | omega)) dX5_part_21
set_option maxHeartbeats 4000000 in
set_option maxRecDepth 100000 in
theorem c_X5_letN (l : Launch) (dC : Nat → ClassId) (dI : Nat → Nat → Nat) (cI cB cZ : ClassId) (w0 : Nat) (x0 : Nat) (h0 : Nat) (g0 : Nat) (p0 : Nat) (q0 : Nat) (r0 : Nat) (fk : Int) (sk : Int) (t0 : Nat) (b1 : Nat) (b2 : Nat) (tr : Int64) (h1 : Nat) (h2 : Nat) (h3 : Nat) (h4 : Nat) (n : Int) (so : Int → Int) (le : Int → Int) (ri : Int → Int) (ti : Int → Int) (p1 : Nat) (p2 : Nat) (st : Int → Int) (lo : Int) (li : Int) (kn : Int) (al : Int → Int) (ah : Int → Int) (sz : Int) (hh : hOk n so le ri ti) (hs : sOk n so ti st) (hlo : -9 ≤ lo ∧ lo ≤ 8) (hli : 0 ≤ li ∧ li ≤ 100) (hkn : 0 ≤ kn ∧ kn ≤ 20) (hsz : -2147483648 ≤ sz ∧ sz ≤ 2147483647) (hno : ¬ ((sz = 0 ∨ sz = 1) ∧ n ≠ 0 ∧ li < 100)) : MetR l yX5_let wsX5_let ({ frames := 1, cells := 0, slots := 0, locals := 20 }) (dC, dI) vwCl (zT cI cB cZ) zN [(w0, .inr (4, [.ref x0, .ref h0, .ref g0, .ref p0, .ref q0, .ref r0, .int (zI fk), .int (zI sk), .ref t0, .ref b1, .ref b2, .long tr])), (h0, .inr (0, [.int (zI n), .ref h1, .ref h2, .ref h3, .ref h4])), (h1, .inl (cI, 9, .inl (zA so))), (h2, .inl (cI, 9, .inl (zA le))), (h3, .inl (cI, 9, .inl (zA ri))), (h4, .inl (cI, 9, .inl (zA ti))), (p0, .inr (1, [.int (zI (pk st)), .int (zI lo), .int (zI li), .int (zI kn), .ref p1, .ref p2])), (p1, .inl (cI, 9, .inl (zA al))), (p2, .inl (cI, 20, .inl (zA ah)))] [.ref w0, .int (zI sz)] (zI (q_letN n li sz)) := by
  refine MetR.intro (cc := cX5_let) (maxL := 3) (ret := (some .int)) (by decide) rfl (Nat.le_of_ble_eq_true rfl) ?_
  intro p e s m args below meth c hx hb hr hlocks hml hts hown hP hK hE ls hl
  have hown : s.vm.findClass RX5 = some m.cls := hown
  have hl : lv_has ls 3 [(0, .ref w0), (1, .int (zI sz))] := hl
  generalize hRM : ({ frames := 1, cells := 0, slots := 0, locals := 20 } : Room) = RM
  generalize hQQ : MQ below (vp_Si (fun r => r = zI (q_letN n li sz))) args s 0 0 (fun _ => False) = QQ
  have in_X0 : ∀ w ∈ wsX00, w ∈ wsX5_let := by decide +kernel
  have in_X1 : ∀ w ∈ wsX10, w ∈ wsX5_let := by decide +kernel
  have in_X5 : ∀ w ∈ wsX50, w ∈ wsX5_let := by decide +kernel
  have w_0 := hts (.fieldLink RX5 19 "WallMarbles" "built" "LWallMarbles$House;") (by decide +kernel)
  have w_1 := hts (.fieldLink RX5 29 "WallMarbles" "present" "LWallMarbles$Present;") (by decide +kernel)
  have n_78 := va_Nw.use (A := args) rfl (zN_2 hE)
  have n_113 := va_Nw.use (A := args) rfl (zN_5 hE)
  have hn := hh.1
  refine lv_iload_n hx hb dX5_let_0 rfl (lv_at hl 1 rfl) ?_
  refine zv_callRS (As := [.int (zI sz)]) (rest := []) ⟨hx, hb, hml, hown, hts⟩ (c_X5_isSize l dC dI cI cB cZ sz (by omega)) (va_cwS 1 hts gX5_let_X5_isSize rfl rfl rfl (by decide +kernel) ⟨by rw [← hRM]; first | decide | (dsimp only; omega), by rw [← hRM]; first | decide | (dsimp only; omega)⟩) hP hK [] rfl [0, 1, 2] rfl zN_bl (zN_go hE) rfl hl.1 rfl (Nat.le_of_ble_eq_true rfl) dX5_let_1 ⟨Nat.zero_le _, Nat.zero_le _⟩ ?_
  refine zv_ifne_b (tgt := 9) hx hb dX5_let_4 (by decide) (fun c_4 => ?_) (fun c_4 => ?_)
  · refine lv_aload_n hx hb dX5_let_9 rfl (lv_at hl 0 rfl) ?_
    refine va_get (D := (dC, dI)) (ci := 4) (v := .ref h0) (C := RX5) (T := TX5) (N := 12) hx hb hts in_X5 hown hK hP 0 rfl rfl 1 (by decide) w_0 (fun _ h9 => h9) rfl dX5_let_10 ?_
    refine va_getN (D := (dC, dI)) (ci := 0) (v := .int (zI n)) (C := RX0) (T := TX0) (N := 5) hx hb hts in_X0 hown hK hP 1 rfl rfl 0 (by decide) n_78 (fun _ h9 => h9) rfl dX5_let_13 ?_
    refine zv_if_ne (tgt := 22) hx hb (by omega) dX5_let_16 (by decide) (fun c_16 => ?_) (fun c_16 => ?_)
    · refine lv_aload_n hx hb dX5_let_22 rfl (lv_at hl 0 rfl) ?_
      refine va_get (D := (dC, dI)) (ci := 4) (v := .ref p0) (C := RX5) (T := TX5) (N := 12) hx hb hts in_X5 hown hK hP 0 rfl rfl 3 (by decide) w_1 (fun _ h9 => h9) rfl dX5_let_23 ?_
      refine va_getN (D := (dC, dI)) (ci := 1) (v := .int (zI li)) (C := RX1) (T := TX1) (N := 6) hx hb hts in_X1 hown hK hP 6 rfl rfl 2 (by decide) n_113 (fun _ h9 => h9) rfl dX5_let_26 ?_
      refine zv_bipush hx hb dX5_let_29 (by decide +kernel) ?_
      refine zv_icmp_lt (tgt := 37) hx hb (by omega) (by omega) dX5_let_31 (by decide) (fun c_31 => ?_) (fun c_31 => ?_)
      · exfalso; omega
      · refine zv_bipush hx hb dX5_let_34 (by decide +kernel) ?_
        rw [← hQQ]
        exact zr_iret hx hb hr hlocks (congrArg zI (show (-3) = q_letN n li sz from by unfold q_letN; (repeat' split) <;> first | rfl | omega)) dX5_let_36
    · refine zv_bipush hx hb dX5_let_19 (by decide +kernel) ?_
      rw [← hQQ]
      exact zr_iret hx hb hr hlocks (congrArg zI (show (-2) = q_letN n li sz from by unfold q_letN; (repeat' split) <;> first | rfl | omega)) dX5_let_21
  · refine zv_iconst hx hb dX5_let_7 ?_
    rw [← hQQ]
    exact zr_iret hx hb hr hlocks (congrArg zI (show (-1) = q_letN n li sz from by unfold q_letN; (repeat' split) <;> first | rfl | omega)) dX5_let_8
set_option maxHeartbeats 4000000 in
set_option maxRecDepth 100000 in
theorem c_X5_letY (l : Launch) (dC : Nat → ClassId) (dI : Nat → Nat → Nat) (cI cB cZ : ClassId) (w0 : Nat) (x0 : Nat) (h0 : Nat) (g0 : Nat) (p0 : Nat) (q0 : Nat) (r0 : Nat) (fk : Int) (sk : Int) (t0 : Nat) (b1 : Nat) (b2 : Nat) (tr : Int64) (h1 : Nat) (h2 : Nat) (h3 : Nat) (h4 : Nat) (n : Int) (so : Int → Int) (le : Int → Int) (ri : Int → Int) (ti : Int → Int) (p1 : Nat) (p2 : Nat) (st : Int → Int) (lo : Int) (li : Int) (kn : Int) (al : Int → Int) (ah : Int → Int) (sz : Int) (hh : hOk n so le ri ti) (hs : sOk n so ti st) (hlo : -9 ≤ lo ∧ lo ≤ 8) (hli : 0 ≤ li ∧ li ≤ 100) (hkn : 0 ≤ kn ∧ kn ≤ 20) (hsz : -2147483648 ≤ sz ∧ sz ≤ 2147483647) (hok : (sz = 0 ∨ sz = 1) ∧ n ≠ 0 ∧ li < 100) : MetW (S := (Int → Int) × (Int → Int) × (Int)) l yX5_let wsX5_let ({ frames := 2, cells := 0, slots := 0, locals := 62 }) (dC, dI) vwCl (zT cI cB cZ) zN [(w0, .inr (4, [.ref x0, .ref h0, .ref g0, .ref p0, .ref q0, .ref r0, .int (zI fk), .int (zI sk), .ref t0, .ref b1, .ref b2, .long tr])), (h0, .inr (0, [.int (zI n), .ref h1, .ref h2, .ref h3, .ref h4])), (h1, .inl (cI, 9, .inl (zA so))), (h2, .inl (cI, 9, .inl (zA le))), (h3, .inl (cI, 9, .inl (zA ri))), (h4, .inl (cI, 9, .inl (zA ti))), (p0, .inr (1, [.int (zI (pk st)), .int (zI lo), .int (zI li), .int (zI kn), .ref p1, .ref p2])), (p1, .inl (cI, 9, .inl (zA al))), (p2, .inl (cI, 20, .inl (zA ah)))] [.ref w0, .int (zI sz)] (fun u => some (.int (zI ((goS so le ri ti lo sz 9 st (n - 1)).2)))) (fun u => [(w0, .inr (4, [.ref x0, .ref h0, .ref g0, .ref p0, .ref q0, .ref r0, .int (zI fk), .int (zI sk), .ref t0, .ref b1, .ref b2, .long tr])), (h0, .inr (0, [.int (zI n), .ref h1, .ref h2, .ref h3, .ref h4])), (h1, .inl (cI, 9, .inl (zA so))), (h2, .inl (cI, 9, .inl (zA le))), (h3, .inl (cI, 9, .inl (zA ri))), (h4, .inl (cI, 9, .inl (zA ti))), (p0, .inr (1, [.int (zI (pk (goS so le ri ti lo sz 9 st (n - 1)).1)), .int (zI lo), .int (zI (li + 1)), .int (zI u.2.2), .ref p1, .ref p2])), (p1, .inl (cI, 9, .inl (zA u.1))), (p2, .inl (cI, 20, .inl (zA u.2.1)))]) (fun u => (u.1 = aUp al (goS so le ri ti lo sz 9 st (n - 1)).2 1) ∧ (u.2.1 = zu (if kn < 20 then ah else zc ah ah 1 0 19) (if kn < 20 then kn else 19) (oc (pk st) (goS so le ri ti lo sz 9 st (n - 1)).2)) ∧ (u.2.2 = (if kn < 20 then kn else 19) + 1)) := by
  refine MetW.intro (cc := cX5_let) (maxL := 3) (ret := (some .int)) (by decide) rfl (Nat.le_of_ble_eq_true rfl) ?_
  intro p e s m args below meth c A hx hb hr hlocks hml hts hown hP hK hD hS hA hE ls hl
  have hown : s.vm.findClass RX5 = some m.cls := hown
  have hl : lv_has ls 3 [(0, .ref w0), (1, .int (zI sz))] := hl
  generalize hRM : ({ frames := 2, cells := 0, slots := 0, locals := 62 } : Room) = RM
  generalize hQQ : MQ below (QW (S := (Int → Int) × (Int → Int) × (Int)) (dC, dI) vwCl A (fun u => some (.int (zI ((goS so le ri ti lo sz 9 st (n - 1)).2)))) (fun u => [(w0, .inr (4, [.ref x0, .ref h0, .ref g0, .ref p0, .ref q0, .ref r0, .int (zI fk), .int (zI sk), .ref t0, .ref b1, .ref b2, .long tr])), (h0, .inr (0, [.int (zI n), .ref h1, .ref h2, .ref h3, .ref h4])), (h1, .inl (cI, 9, .inl (zA so))), (h2, .inl (cI, 9, .inl (zA le))), (h3, .inl (cI, 9, .inl (zA ri))), (h4, .inl (cI, 9, .inl (zA ti))), (p0, .inr (1, [.int (zI (pk (goS so le ri ti lo sz 9 st (n - 1)).1)), .int (zI lo), .int (zI (li + 1)), .int (zI u.2.2), .ref p1, .ref p2])), (p1, .inl (cI, 9, .inl (zA u.1))), (p2, .inl (cI, 20, .inl (zA u.2.1)))]) (fun u => (u.1 = aUp al (goS so le ri ti lo sz 9 st (n - 1)).2 1) ∧ (u.2.1 = zu (if kn < 20 then ah else zc ah ah 1 0 19) (if kn < 20 then kn else 19) (oc (pk st) (goS so le ri ti lo sz 9 st (n - 1)).2)) ∧ (u.2.2 = (if kn < 20 then kn else 19) + 1))) args s 0 0 A = QQ
  have in_X0 : ∀ w ∈ wsX00, w ∈ wsX5_let := by decide +kernel
  have in_X1 : ∀ w ∈ wsX10, w ∈ wsX5_let := by decide +kernel
  have in_X5 : ∀ w ∈ wsX50, w ∈ wsX5_let := by decide +kernel
  have w_0 := hts (.fieldLink RX5 19 "WallMarbles" "built" "LWallMarbles$House;") (by decide +kernel)
  have w_1 := hts (.fieldLink RX5 29 "WallMarbles" "present" "LWallMarbles$Present;") (by decide +kernel)
  have n_78 := va_Nw.use (A := args) rfl (zN_2 hE)
  have n_113 := va_Nw.use (A := args) rfl (zN_5 hE)
  have n_98 := va_Nw.use (A := args) rfl (zN_3 hE)
  have n_116 := va_Nw.use (A := args) rfl (zN_4 hE)
  have hn := hh.1
  obtain ⟨g1, g2⟩ := goS_ok hh lo sz 9 st (n - 1) (by omega) (by omega) hs
  refine lv_iload_n hx hb dX5_let_0 rfl (lv_at hl 1 rfl) ?_
  refine zv_callRS (As := [.int (zI sz)]) (rest := []) ⟨hx, hb, hml, hown, hts⟩ (c_X5_isSize l dC dI cI cB cZ sz (by omega)) (va_cwS 1 hts gX5_let_X5_isSize rfl rfl rfl (by decide +kernel) ⟨by rw [← hRM]; first | decide | (dsimp only; omega), by rw [← hRM]; first | decide | (dsimp only; omega)⟩) hP hK [] rfl [0, 1, 2] rfl zN_bl (zN_go hE) rfl hl.1 rfl (Nat.le_of_ble_eq_true rfl) dX5_let_1 ⟨Nat.zero_le _, Nat.zero_le _⟩ ?_
  refine zv_ifne_b (tgt := 9) hx hb dX5_let_4 (by decide) (fun c_4 => ?_) (fun c_4 => ?_)
  · refine lv_aload_n hx hb dX5_let_9 rfl (lv_at hl 0 rfl) ?_
    refine va_get (D := (dC, dI)) (ci := 4) (v := .ref h0) (C := RX5) (T := TX5) (N := 12) hx hb hts in_X5 hown hK hP 0 rfl rfl 1 (by decide) w_0 (fun _ h9 => h9) rfl dX5_let_10 ?_
    refine va_getN (D := (dC, dI)) (ci := 0) (v := .int (zI n)) (C := RX0) (T := TX0) (N := 5) hx hb hts in_X0 hown hK hP 1 rfl rfl 0 (by decide) n_78 (fun _ h9 => h9) rfl dX5_let_13 ?_
    refine zv_if_ne (tgt := 22) hx hb (by omega) dX5_let_16 (by decide) (fun c_16 => ?_) (fun c_16 => ?_)
    · refine lv_aload_n hx hb dX5_let_22 rfl (lv_at hl 0 rfl) ?_
      refine va_get (D := (dC, dI)) (ci := 4) (v := .ref p0) (C := RX5) (T := TX5) (N := 12) hx hb hts in_X5 hown hK hP 0 rfl rfl 3 (by decide) w_1 (fun _ h9 => h9) rfl dX5_let_23 ?_
      refine va_getN (D := (dC, dI)) (ci := 1) (v := .int (zI li)) (C := RX1) (T := TX1) (N := 6) hx hb hts in_X1 hown hK hP 6 rfl rfl 2 (by decide) n_113 (fun _ h9 => h9) rfl dX5_let_26 ?_
      refine zv_bipush hx hb dX5_let_29 (by decide +kernel) ?_
      refine zv_icmp_lt (tgt := 37) hx hb (by omega) (by omega) dX5_let_31 (by decide) (fun c_31 => ?_) (fun c_31 => ?_)
      · refine lv_aload_n hx hb dX5_let_37 rfl (lv_at hl 0 rfl) ?_
        refine va_get (D := (dC, dI)) (ci := 4) (v := .ref h0) (C := RX5) (T := TX5) (N := 12) hx hb hts in_X5 hown hK hP 0 rfl rfl 1 (by decide) w_0 (fun _ h9 => h9) rfl dX5_let_38 ?_
        refine lv_aload_n hx hb dX5_let_41 rfl (lv_at hl 0 rfl) ?_
        refine va_get (D := (dC, dI)) (ci := 4) (v := .ref p0) (C := RX5) (T := TX5) (N := 12) hx hb hts in_X5 hown hK hP 0 rfl rfl 3 (by decide) w_1 (fun _ h9 => h9) rfl dX5_let_42 ?_
        refine va_getN (D := (dC, dI)) (ci := 1) (v := .int (zI (pk st))) (C := RX1) (T := TX1) (N := 6) hx hb hts in_X1 hown hK hP 6 rfl rfl 0 (by decide) n_98 (fun _ h9 => h9) rfl dX5_let_45 ?_
        refine lv_iload_n hx hb dX5_let_48 rfl (lv_at hl 1 rfl) ?_
        refine lv_aload_n hx hb dX5_let_49 rfl (lv_at hl 0 rfl) ?_
        refine va_get (D := (dC, dI)) (ci := 4) (v := .ref p0) (C := RX5) (T := TX5) (N := 12) hx hb hts in_X5 hown hK hP 0 rfl rfl 3 (by decide) w_1 (fun _ h9 => h9) rfl dX5_let_50 ?_
        refine va_getN (D := (dC, dI)) (ci := 1) (v := .int (zI lo)) (C := RX1) (T := TX1) (N := 6) hx hb hts in_X1 hown hK hP 6 rfl rfl 1 (by decide) n_116 (fun _ h9 => h9) rfl dX5_let_53 ?_
        refine zv_callRV (As := [.int (zI (pk st)), .int (zI sz), .int (zI lo)]) (rest := []) ⟨hx, hb, hml, hown, hts⟩ (c_X0_fall l dC dI cI cB cZ h0 h1 h2 h3 h4 n so le ri ti st sz lo (by exact hh) (by omega) (by exact hs) (by omega) (by omega)) (cwV 3 hts gX5_let_X0_fall rfl rfl rfl (by decide +kernel) ⟨by rw [← hRM]; first | decide | (dsimp only; omega), by rw [← hRM]; first | decide | (dsimp only; omega)⟩) hP hK [1, 2, 3, 4, 5] rfl [0, 1, 2] rfl zN_bl (zN_go hE) (q0 := 0) rfl rfl rfl rfl hl.1 rfl (Nat.le_of_ble_eq_true rfl) dX5_let_56 ⟨Nat.zero_le _, Nat.zero_le _⟩ ?_
        refine lv_istore_n (lv' := [(2, .int (zI (oc (pk (goS so le ri ti lo sz 9 st (n - 1)).1) (goS so le ri ti lo sz 9 st (n - 1)).2))), (0, .ref w0), (1, .int (zI sz))]) hx hb dX5_let_59 rfl hl (by decide) rfl (fun ls hl => ?_)
        refine lv_aload_n hx hb dX5_let_60 rfl (lv_at hl 1 rfl) ?_
        refine va_get (D := (dC, dI)) (ci := 4) (v := .ref p0) (C := RX5) (T := TX5) (N := 12) hx hb hts in_X5 hown hK hP 0 rfl rfl 3 (by decide) w_1 (fun _ h9 => h9) rfl dX5_let_61 ?_
        refine lv_iload_n hx hb dX5_let_64 rfl (lv_at hl 0 rfl) ?_
        refine zv_callWV (As := [.int (zI (oc (pk (goS so le ri ti lo sz 9 st (n - 1)).1) (goS so le ri ti lo sz 9 st (n - 1)).2))]) (rest := []) (ws2 := fun u => [(w0, .inr (4, [.ref x0, .ref h0, .ref g0, .ref p0, .ref q0, .ref r0, .int (zI fk), .int (zI sk), .ref t0, .ref b1, .ref b2, .long tr])), (h0, .inr (0, [.int (zI n), .ref h1, .ref h2, .ref h3, .ref h4])), (h1, .inl (cI, 9, .inl (zA so))), (h2, .inl (cI, 9, .inl (zA le))), (h3, .inl (cI, 9, .inl (zA ri))), (h4, .inl (cI, 9, .inl (zA ti))), (p0, .inr (1, [.int (zI (pk ((goS so le ri ti lo sz 9 st (n - 1)).1))), .int (zI lo), .int (zI (li + 1)), .int (zI u.2.2), .ref p1, .ref p2])), (p1, .inl (cI, 9, .inl (zA u.1))), (p2, .inl (cI, 20, .inl (zA u.2.1)))]) ⟨hx, hb, hml, hown, hts⟩ (c_X1_take l dC dI cI cB cZ p0 p1 p2 st lo li kn al ah ((goS so le ri ti lo sz 9 st (n - 1)).1) ((goS so le ri ti lo sz 9 st (n - 1)).2) (by exact sOk_s7 hh hs) (by exact sOk_s7 hh g1) (by omega) (by omega)) (cwV 1 hts gX5_let_X1_take rfl rfl rfl (by decide +kernel) ⟨by rw [← hRM]; first | decide | (dsimp only; omega), by rw [← hRM]; first | decide | (dsimp only; omega)⟩) hP hD hS hA hK [6, 7, 8] rfl (by decide) [0, 1, 2] rfl zN_bl (zN_go hE) (fun _ => rfl) (fun _ => rfl) (q0 := 0) rfl rfl rfl rfl hl.1 rfl (Nat.le_of_ble_eq_true rfl) dX5_let_65 ⟨Nat.zero_le _, Nat.zero_le _⟩ (fun u H locs hpo hP hD hS => ?_)
        obtain ⟨al2_65, ah2_65, kn2_65⟩ := u
        have hp0_65 : al2_65 = aUp al ((goS so le ri ti lo sz 9 st (n - 1)).2) 1 := hpo.1
        have hp1_65 : ah2_65 = zu (if kn < 20 then ah else zc ah ah 1 0 19) (if kn < 20 then kn else 19) (oc (pk st) ((goS so le ri ti lo sz 9 st (n - 1)).2)) := hpo.2.1
        have hp2_65 : kn2_65 = (if kn < 20 then kn else 19) + 1 := hpo.2.2
        have hP : va_P (dC, dI) vwCl [(w0, .inr (4, [.ref x0, .ref h0, .ref g0, .ref p0, .ref q0, .ref r0, .int (zI fk), .int (zI sk), .ref t0, .ref b1, .ref b2, .long tr])), (h0, .inr (0, [.int (zI n), .ref h1, .ref h2, .ref h3, .ref h4])), (h1, .inl (cI, 9, .inl (zA so))), (h2, .inl (cI, 9, .inl (zA le))), (h3, .inl (cI, 9, .inl (zA ri))), (h4, .inl (cI, 9, .inl (zA ti))), (p0, .inr (1, [.int (zI (pk ((goS so le ri ti lo sz 9 st (n - 1)).1))), .int (zI lo), .int (zI (li + 1)), .int (zI kn2_65), .ref p1, .ref p2])), (p1, .inl (cI, 9, .inl (zA al2_65))), (p2, .inl (cI, 20, .inl (zA ah2_65)))] H := hP
        have hD : va_D A [(w0, .inr (4, [.ref x0, .ref h0, .ref g0, .ref p0, .ref q0, .ref r0, .int (zI fk), .int (zI sk), .ref t0, .ref b1, .ref b2, .long tr])), (h0, .inr (0, [.int (zI n), .ref h1, .ref h2, .ref h3, .ref h4])), (h1, .inl (cI, 9, .inl (zA so))), (h2, .inl (cI, 9, .inl (zA le))), (h3, .inl (cI, 9, .inl (zA ri))), (h4, .inl (cI, 9, .inl (zA ti))), (p0, .inr (1, [.int (zI (pk ((goS so le ri ti lo sz 9 st (n - 1)).1))), .int (zI lo), .int (zI (li + 1)), .int (zI kn2_65), .ref p1, .ref p2])), (p1, .inl (cI, 9, .inl (zA al2_65))), (p2, .inl (cI, 20, .inl (zA ah2_65)))] := hD
        refine W.eq (g2 := F0 m 68 ls []) rfl ?_
        refine lv_iload_n hx hb dX5_let_68 rfl (lv_at hl 0 rfl) ?_
        refine zv_callRS (As := [.int (zI (oc (pk (goS so le ri ti lo sz 9 st (n - 1)).1) (goS so le ri ti lo sz 9 st (n - 1)).2))]) (rest := []) ⟨hx, hb, hml, hown, hts⟩ (c_X2_comesOf l dC dI cI cB cZ ((goS so le ri ti lo sz 9 st (n - 1)).1) ((goS so le ri ti lo sz 9 st (n - 1)).2) (by exact sOk_s7 hh g1) (by omega)) (va_cwS 1 hts gX5_let_X2_comesOf rfl rfl rfl (by decide +kernel) ⟨by rw [← hRM]; first | decide | (dsimp only; omega), by rw [← hRM]; first | decide | (dsimp only; omega)⟩) hP hK [] rfl [0, 1, 2] rfl zN_bl (zN_go hE) rfl hl.1 rfl (Nat.le_of_ble_eq_true rfl) dX5_let_69 ⟨Nat.zero_le _, Nat.zero_le _⟩ ?_
        rw [← hQQ]
        exact zw_iret hx hb hr hlocks (al2_65, ah2_65, kn2_65) rfl ⟨(by exact hp0_65), (by exact hp1_65), (by exact hp2_65)⟩ hP hS dX5_let_72
      · exfalso; omega
    · exfalso; omega
  · exfalso; omega
set_option maxHeartbeats 4000000 in
set_option maxRecDepth 100000 in
theorem c_X5_undoN (l : Launch) (dC : Nat → ClassId) (dI : Nat → Nat → Nat) (cI cB cZ : ClassId) (w0 : Nat) (x0 : Nat) (h0 : Nat) (g0 : Nat) (p0 : Nat) (q0 : Nat) (r0 : Nat) (fk : Int) (sk : Int) (t0 : Nat) (b1 : Nat) (b2 : Nat) (tr : Int64) (h1 : Nat) (h2 : Nat) (h3 : Nat) (h4 : Nat) (n : Int) (so : Int → Int) (le : Int → Int) (ri : Int → Int) (ti : Int → Int) (p1 : Nat) (p2 : Nat) (st : Int → Int) (lo : Int) (li : Int) (kn : Int) (al : Int → Int) (ah : Int → Int) (hkn : 0 ≤ kn ∧ kn ≤ 20) (hno : kn < 1) : MetR l yX5_undo wsX5_undo ({ frames := 0, cells := 0, slots := 0, locals := 0 }) (dC, dI) vwCl (zT cI cB cZ) zN [(w0, .inr (4, [.ref x0, .ref h0, .ref g0, .ref p0, .ref q0, .ref r0, .int (zI fk), .int (zI sk), .ref t0, .ref b1, .ref b2, .long tr])), (h0, .inr (0, [.int (zI n), .ref h1, .ref h2, .ref h3, .ref h4])), (h1, .inl (cI, 9, .inl (zA so))), (h2, .inl (cI, 9, .inl (zA le))), (h3, .inl (cI, 9, .inl (zA ri))), (h4, .inl (cI, 9, .inl (zA ti))), (p0, .inr (1, [.int (zI (pk st)), .int (zI lo), .int (zI li), .int (zI kn), .ref p1, .ref p2])), (p1, .inl (cI, 9, .inl (zA al))), (p2, .inl (cI, 20, .inl (zA ah)))] [.ref w0] (zI (-2)) := by
  refine MetR.intro (cc := cX5_undo) (maxL := 1) (ret := (some .int)) (by decide) rfl (Nat.le_of_ble_eq_true rfl) ?_
  intro p e s m args below meth c hx hb hr hlocks hml hts hown hP hK hE ls hl
  have hown : s.vm.findClass RX5 = some m.cls := hown
  have hl : lv_has ls 1 [(0, .ref w0)] := hl
  generalize hRM : ({ frames := 0, cells := 0, slots := 0, locals := 0 } : Room) = RM
  generalize hQQ : MQ below (vp_Si (fun r => r = zI (-2))) args s 0 0 (fun _ => False) = QQ
  have in_X1 : ∀ w ∈ wsX10, w ∈ wsX5_undo := by decide +kernel
  have in_X5 : ∀ w ∈ wsX50, w ∈ wsX5_undo := by decide +kernel
  have w_0 := hts (.fieldLink RX5 29 "WallMarbles" "present" "LWallMarbles$Present;") (by decide +kernel)
  have n_129 := va_Nw.use (A := args) rfl (zN_6 hE)
  refine lv_aload_n hx hb dX5_undo_0 rfl (lv_at hl 0 rfl) ?_
  refine va_get (D := (dC, dI)) (ci := 4) (v := .ref p0) (C := RX5) (T := TX5) (N := 12) hx hb hts in_X5 hown hK hP 0 rfl rfl 3 (by decide) w_0 (fun _ h9 => h9) rfl dX5_undo_1 ?_
  refine va_getN (D := (dC, dI)) (ci := 1) (v := .int (zI kn)) (C := RX1) (T := TX1) (N := 6) hx hb hts in_X1 hown hK hP 6 rfl rfl 3 (by decide) n_129 (fun _ h9 => h9) rfl dX5_undo_4 ?_
  refine zv_iconst hx hb dX5_undo_7 ?_
  refine zv_icmp_ge (tgt := 14) hx hb (by omega) (by omega) dX5_undo_8 (by decide) (fun c_8 => ?_) (fun c_8 => ?_)
  · exfalso; omega
  · refine zv_bipush hx hb dX5_undo_11 (by decide +kernel) ?_
    rw [← hQQ]
    exact zr_iret hx hb hr hlocks (congrArg zI (show (-2) = -2 from by first | rfl | omega | exact (bZ_t (by omega)).symm | exact (bZ_f (by omega)).symm)) dX5_undo_13
set_option maxHeartbeats 4000000 in
set_option maxRecDepth 100000 in
theorem c_X5_undoY (l : Launch) (dC : Nat → ClassId) (dI : Nat → Nat → Nat) (cI cB cZ : ClassId) (w0 : Nat) (x0 : Nat) (h0 : Nat) (g0 : Nat) (p0 : Nat) (q0 : Nat) (r0 : Nat) (fk : Int) (sk : Int) (t0 : Nat) (b1 : Nat) (b2 : Nat) (tr : Int64) (h1 : Nat) (h2 : Nat) (h3 : Nat) (h4 : Nat) (n : Int) (so : Int → Int) (le : Int → Int) (ri : Int → Int) (ti : Int → Int) (p1 : Nat) (p2 : Nat) (st : Int → Int) (lo : Int) (li : Int) (kn : Int) (al : Int → Int) (ah : Int → Int) (s2 : Int → Int) (c2 : Int) (g7 : s7 s2) (hc : c2 = -9 ∨ (0 ≤ c2 ∧ c2 ≤ 8)) (hkn : 1 ≤ kn ∧ kn ≤ 20) (hah : ah (kn - 1) = oc (pk s2) c2) : MetW (S := (Int → Int)) l yX5_undo wsX5_undo ({ frames := 2, cells := 0, slots := 0, locals := 43 }) (dC, dI) vwCl (zT cI cB cZ) zN [(w0, .inr (4, [.ref x0, .ref h0, .ref g0, .ref p0, .ref q0, .ref r0, .int (zI fk), .int (zI sk), .ref t0, .ref b1, .ref b2, .long tr])), (h0, .inr (0, [.int (zI n), .ref h1, .ref h2, .ref h3, .ref h4])), (h1, .inl (cI, 9, .inl (zA so))), (h2, .inl (cI, 9, .inl (zA le))), (h3, .inl (cI, 9, .inl (zA ri))), (h4, .inl (cI, 9, .inl (zA ti))), (p0, .inr (1, [.int (zI (pk st)), .int (zI lo), .int (zI li), .int (zI kn), .ref p1, .ref p2])), (p1, .inl (cI, 9, .inl (zA al))), (p2, .inl (cI, 20, .inl (zA ah)))] [.ref w0] (fun u => some (.int (zI (li - 1)))) (fun u => [(w0, .inr (4, [.ref x0, .ref h0, .ref g0, .ref p0, .ref q0, .ref r0, .int (zI fk), .int (zI sk), .ref t0, .ref b1, .ref b2, .long tr])), (h0, .inr (0, [.int (zI n), .ref h1, .ref h2, .ref h3, .ref h4])), (h1, .inl (cI, 9, .inl (zA so))), (h2, .inl (cI, 9, .inl (zA le))), (h3, .inl (cI, 9, .inl (zA ri))), (h4, .inl (cI, 9, .inl (zA ti))), (p0, .inr (1, [.int (zI (pk s2)), .int (zI lo), .int (zI (li - 1)), .int (zI (kn - 1)), .ref p1, .ref p2])), (p1, .inl (cI, 9, .inl (zA u))), (p2, .inl (cI, 20, .inl (zA ah)))]) (fun u => (u = aUp al c2 (-1))) := by
  refine MetW.intro (cc := cX5_undo) (maxL := 1) (ret := (some .int)) (by decide) rfl (Nat.le_of_ble_eq_true rfl) ?_
  intro p e s m args below meth c A hx hb hr hlocks hml hts hown hP hK hD hS hA hE ls hl
  have hown : s.vm.findClass RX5 = some m.cls := hown
  have hl : lv_has ls 1 [(0, .ref w0)] := hl
  generalize hRM : ({ frames := 2, cells := 0, slots := 0, locals := 43 } : Room) = RM
  generalize hQQ : MQ below (QW (S := (Int → Int)) (dC, dI) vwCl A (fun u => some (.int (zI (li - 1)))) (fun u => [(w0, .inr (4, [.ref x0, .ref h0, .ref g0, .ref p0, .ref q0, .ref r0, .int (zI fk), .int (zI sk), .ref t0, .ref b1, .ref b2, .long tr])), (h0, .inr (0, [.int (zI n), .ref h1, .ref h2, .ref h3, .ref h4])), (h1, .inl (cI, 9, .inl (zA so))), (h2, .inl (cI, 9, .inl (zA le))), (h3, .inl (cI, 9, .inl (zA ri))), (h4, .inl (cI, 9, .inl (zA ti))), (p0, .inr (1, [.int (zI (pk s2)), .int (zI lo), .int (zI (li - 1)), .int (zI (kn - 1)), .ref p1, .ref p2])), (p1, .inl (cI, 9, .inl (zA u))), (p2, .inl (cI, 20, .inl (zA ah)))]) (fun u => (u = aUp al c2 (-1)))) args s 0 0 A = QQ
  have in_X1 : ∀ w ∈ wsX10, w ∈ wsX5_undo := by decide +kernel
  have in_X5 : ∀ w ∈ wsX50, w ∈ wsX5_undo := by decide +kernel
  have w_0 := hts (.fieldLink RX5 29 "WallMarbles" "present" "LWallMarbles$Present;") (by decide +kernel)
  have n_129 := va_Nw.use (A := args) rfl (zN_6 hE)
  have n_113 := va_Nw.use (A := args) rfl (zN_5 hE)
  refine lv_aload_n hx hb dX5_undo_0 rfl (lv_at hl 0 rfl) ?_
  refine va_get (D := (dC, dI)) (ci := 4) (v := .ref p0) (C := RX5) (T := TX5) (N := 12) hx hb hts in_X5 hown hK hP 0 rfl rfl 3 (by decide) w_0 (fun _ h9 => h9) rfl dX5_undo_1 ?_
  refine va_getN (D := (dC, dI)) (ci := 1) (v := .int (zI kn)) (C := RX1) (T := TX1) (N := 6) hx hb hts in_X1 hown hK hP 6 rfl rfl 3 (by decide) n_129 (fun _ h9 => h9) rfl dX5_undo_4 ?_
  refine zv_iconst hx hb dX5_undo_7 ?_
  refine zv_icmp_ge (tgt := 14) hx hb (by omega) (by omega) dX5_undo_8 (by decide) (fun c_8 => ?_) (fun c_8 => ?_)
  · refine lv_aload_n hx hb dX5_undo_14 rfl (lv_at hl 0 rfl) ?_
    refine va_get (D := (dC, dI)) (ci := 4) (v := .ref p0) (C := RX5) (T := TX5) (N := 12) hx hb hts in_X5 hown hK hP 0 rfl rfl 3 (by decide) w_0 (fun _ h9 => h9) rfl dX5_undo_15 ?_
    refine zv_callWV (As := []) (rest := []) (ws2 := fun u => [(w0, .inr (4, [.ref x0, .ref h0, .ref g0, .ref p0, .ref q0, .ref r0, .int (zI fk), .int (zI sk), .ref t0, .ref b1, .ref b2, .long tr])), (h0, .inr (0, [.int (zI n), .ref h1, .ref h2, .ref h3, .ref h4])), (h1, .inl (cI, 9, .inl (zA so))), (h2, .inl (cI, 9, .inl (zA le))), (h3, .inl (cI, 9, .inl (zA ri))), (h4, .inl (cI, 9, .inl (zA ti))), (p0, .inr (1, [.int (zI (pk s2)), .int (zI lo), .int (zI (li - 1)), .int (zI (kn - 1)), .ref p1, .ref p2])), (p1, .inl (cI, 9, .inl (zA u))), (p2, .inl (cI, 20, .inl (zA ah)))]) ⟨hx, hb, hml, hown, hts⟩ (c_X1_takeBack l dC dI cI cB cZ p0 p1 p2 st lo li kn al ah s2 c2 (by exact g7) (by omega) (by omega) (by exact hah)) (cwV 0 hts gX5_undo_X1_takeBack rfl rfl rfl (by decide +kernel) ⟨by rw [← hRM]; first | decide | (dsimp only; omega), by rw [← hRM]; first | decide | (dsimp only; omega)⟩) hP hD hS hA hK [6, 7, 8] rfl (by decide) [0, 1, 2] rfl zN_bl (zN_go hE) (fun _ => rfl) (fun _ => rfl) (q0 := 0) rfl rfl rfl rfl hl.1 rfl (Nat.le_of_ble_eq_true rfl) dX5_undo_18 ⟨Nat.zero_le _, Nat.zero_le _⟩ (fun u H locs hpo hP hD hS => ?_)
    obtain ⟨al2_18, rfl⟩ : ∃ z, z = u := ⟨_, rfl⟩
    have hp0_18 : al2_18 = aUp al c2 (-1) := hpo
    have hP : va_P (dC, dI) vwCl [(w0, .inr (4, [.ref x0, .ref h0, .ref g0, .ref p0, .ref q0, .ref r0, .int (zI fk), .int (zI sk), .ref t0, .ref b1, .ref b2, .long tr])), (h0, .inr (0, [.int (zI n), .ref h1, .ref h2, .ref h3, .ref h4])), (h1, .inl (cI, 9, .inl (zA so))), (h2, .inl (cI, 9, .inl (zA le))), (h3, .inl (cI, 9, .inl (zA ri))), (h4, .inl (cI, 9, .inl (zA ti))), (p0, .inr (1, [.int (zI (pk s2)), .int (zI lo), .int (zI (li - 1)), .int (zI (kn - 1)), .ref p1, .ref p2])), (p1, .inl (cI, 9, .inl (zA al2_18))), (p2, .inl (cI, 20, .inl (zA ah)))] H := hP
    have hD : va_D A [(w0, .inr (4, [.ref x0, .ref h0, .ref g0, .ref p0, .ref q0, .ref r0, .int (zI fk), .int (zI sk), .ref t0, .ref b1, .ref b2, .long tr])), (h0, .inr (0, [.int (zI n), .ref h1, .ref h2, .ref h3, .ref h4])), (h1, .inl (cI, 9, .inl (zA so))), (h2, .inl (cI, 9, .inl (zA le))), (h3, .inl (cI, 9, .inl (zA ri))), (h4, .inl (cI, 9, .inl (zA ti))), (p0, .inr (1, [.int (zI (pk s2)), .int (zI lo), .int (zI (li - 1)), .int (zI (kn - 1)), .ref p1, .ref p2])), (p1, .inl (cI, 9, .inl (zA al2_18))), (p2, .inl (cI, 20, .inl (zA ah)))] := hD
    refine W.eq (g2 := F0 m 21 ls []) rfl ?_
    refine lv_aload_n hx hb dX5_undo_21 rfl (lv_at hl 0 rfl) ?_
    refine va_get (D := (dC, dI)) (ci := 4) (v := .ref p0) (C := RX5) (T := TX5) (N := 12) hx hb hts in_X5 hown hK hP 0 rfl rfl 3 (by decide) w_0 (fun _ h9 => h9) rfl dX5_undo_22 ?_
    refine va_getN (D := (dC, dI)) (ci := 1) (v := .int (zI (li - 1))) (C := RX1) (T := TX1) (N := 6) hx hb hts in_X1 hown hK hP 6 rfl rfl 2 (by decide) n_113 (fun _ h9 => h9) rfl dX5_undo_25 ?_
    rw [← hQQ]
    exact zw_iret hx hb hr hlocks (al2_18) rfl (by exact hp0_18) hP hS dX5_undo_28
  · exfalso; omega
set_option maxHeartbeats 4000000 in
set_option maxRecDepth 100000 in
theorem c_X5_lodgeN (l : Launch) (dC : Nat → ClassId) (dI : Nat → Nat → Nat) (cI cB cZ : ClassId) (w0 : Nat) (x0 : Nat) (h0 : Nat) (g0 : Nat) (p0 : Nat) (q0 : Nat) (r0 : Nat) (fk : Int) (sk : Int) (t0 : Nat) (b1 : Nat) (b2 : Nat) (tr : Int64) (h1 : Nat) (h2 : Nat) (h3 : Nat) (h4 : Nat) (n : Int) (so : Int → Int) (le : Int → Int) (ri : Int → Int) (ti : Int → Int) (p1 : Nat) (p2 : Nat) (st : Int → Int) (lo : Int) (li : Int) (kn : Int) (al : Int → Int) (ah : Int → Int) (k : Int) (hh : hOk n so le ri ti) (hk : -2147483648 ≤ k ∧ k ≤ 2147483647) (hno : ¬ (k = -1 ∨ (0 ≤ k ∧ k < n))) : MetR l yX5_lodge wsX5_lodge ({ frames := 1, cells := 0, slots := 0, locals := 21 }) (dC, dI) vwCl (zT cI cB cZ) zN [(w0, .inr (4, [.ref x0, .ref h0, .ref g0, .ref p0, .ref q0, .ref r0, .int (zI fk), .int (zI sk), .ref t0, .ref b1, .ref b2, .long tr])), (h0, .inr (0, [.int (zI n), .ref h1, .ref h2, .ref h3, .ref h4])), (h1, .inl (cI, 9, .inl (zA so))), (h2, .inl (cI, 9, .inl (zA le))), (h3, .inl (cI, 9, .inl (zA ri))), (h4, .inl (cI, 9, .inl (zA ti))), (p0, .inr (1, [.int (zI (pk st)), .int (zI lo), .int (zI li), .int (zI kn), .ref p1, .ref p2])), (p1, .inl (cI, 9, .inl (zA al))), (p2, .inl (cI, 20, .inl (zA ah)))] [.ref w0, .int (zI k)] (zI (-1)) := by
  refine MetR.intro (cc := cX5_lodge) (maxL := 3) (ret := (some .int)) (by decide) rfl (Nat.le_of_ble_eq_true rfl) ?_
  intro p e s m args below meth c hx hb hr hlocks hml hts hown hP hK hE ls hl
  have hown : s.vm.findClass RX5 = some m.cls := hown
  have hl : lv_has ls 3 [(0, .ref w0), (1, .int (zI k))] := hl
  generalize hRM : ({ frames := 1, cells := 0, slots := 0, locals := 21 } : Room) = RM
  generalize hQQ : MQ below (vp_Si (fun r => r = zI (-1))) args s 0 0 (fun _ => False) = QQ
  have in_X5 : ∀ w ∈ wsX50, w ∈ wsX5_lodge := by decide +kernel
  have w_0 := hts (.fieldLink RX5 19 "WallMarbles" "built" "LWallMarbles$House;") (by decide +kernel)
  have hn := hh.1
  refine lv_iload_n hx hb dX5_lodge_0 rfl (lv_at hl 1 rfl) ?_
  refine zv_iconst hx hb dX5_lodge_1 ?_
  refine zv_icmp_eq (tgt := 18) hx hb (by omega) (by omega) dX5_lodge_2 (by decide) (fun c_2 => ?_) (fun c_2 => ?_)
  · exfalso; omega
  · refine lv_aload_n hx hb dX5_lodge_5 rfl (lv_at hl 0 rfl) ?_
    refine va_get (D := (dC, dI)) (ci := 4) (v := .ref h0) (C := RX5) (T := TX5) (N := 12) hx hb hts in_X5 hown hK hP 0 rfl rfl 1 (by decide) w_0 (fun _ h9 => h9) rfl dX5_lodge_6 ?_
    refine lv_iload_n hx hb dX5_lodge_9 rfl (lv_at hl 1 rfl) ?_
    refine zv_callRV (As := [.int (zI k)]) (rest := []) ⟨hx, hb, hml, hown, hts⟩ (c_X0_has l dC dI cI cB cZ h0 h1 h2 h3 h4 n so le ri ti k (by omega) (by omega)) (cwV 1 hts gX5_lodge_X0_has rfl rfl rfl (by decide +kernel) ⟨by rw [← hRM]; first | decide | (dsimp only; omega), by rw [← hRM]; first | decide | (dsimp only; omega)⟩) hP hK [1, 2, 3, 4, 5] rfl [0, 1, 2] rfl zN_bl (zN_go hE) (q0 := 0) rfl rfl rfl rfl hl.1 rfl (Nat.le_of_ble_eq_true rfl) dX5_lodge_10 ⟨Nat.zero_le _, Nat.zero_le _⟩ ?_
    refine zv_ifne_b (tgt := 18) hx hb dX5_lodge_13 (by decide) (fun c_13 => ?_) (fun c_13 => ?_)
    · exfalso; omega
    · refine zv_iconst hx hb dX5_lodge_16 ?_
      rw [← hQQ]
      exact zr_iret hx hb hr hlocks (congrArg zI (show (-1) = -1 from by first | rfl | omega | exact (bZ_t (by omega)).symm | exact (bZ_f (by omega)).symm)) dX5_lodge_17
set_option maxHeartbeats 4000000 in
set_option maxRecDepth 100000 in
theorem c_X5_lodgeY (l : Launch) (dC : Nat → ClassId) (dI : Nat → Nat → Nat) (cI cB cZ : ClassId) (w0 : Nat) (x0 : Nat) (h0 : Nat) (g0 : Nat) (p0 : Nat) (q0 : Nat) (r0 : Nat) (fk : Int) (sk : Int) (t0 : Nat) (b1 : Nat) (b2 : Nat) (tr : Int64) (h1 : Nat) (h2 : Nat) (h3 : Nat) (h4 : Nat) (n : Int) (so : Int → Int) (le : Int → Int) (ri : Int → Int) (ti : Int → Int) (p1 : Nat) (p2 : Nat) (st : Int → Int) (lo : Int) (li : Int) (kn : Int) (al : Int → Int) (ah : Int → Int) (k : Int) (hh : hOk n so le ri ti) (hk : -2147483648 ≤ k ∧ k ≤ 2147483647) (hok : k = -1 ∨ (0 ≤ k ∧ k < n)) : MetW (S := (Int)) l yX5_lodge wsX5_lodge ({ frames := 1, cells := 0, slots := 0, locals := 21 }) (dC, dI) vwCl (zT cI cB cZ) zN [(w0, .inr (4, [.ref x0, .ref h0, .ref g0, .ref p0, .ref q0, .ref r0, .int (zI fk), .int (zI sk), .ref t0, .ref b1, .ref b2, .long tr])), (h0, .inr (0, [.int (zI n), .ref h1, .ref h2, .ref h3, .ref h4])), (h1, .inl (cI, 9, .inl (zA so))), (h2, .inl (cI, 9, .inl (zA le))), (h3, .inl (cI, 9, .inl (zA ri))), (h4, .inl (cI, 9, .inl (zA ti))), (p0, .inr (1, [.int (zI (pk st)), .int (zI lo), .int (zI li), .int (zI kn), .ref p1, .ref p2])), (p1, .inl (cI, 9, .inl (zA al))), (p2, .inl (cI, 20, .inl (zA ah)))] [.ref w0, .int (zI k)] (fun u => some (.int (zI lo))) (fun u => [(w0, .inr (4, [.ref x0, .ref h0, .ref g0, .ref p0, .ref q0, .ref r0, .int (zI fk), .int (zI sk), .ref t0, .ref b1, .ref b2, .long tr])), (h0, .inr (0, [.int (zI n), .ref h1, .ref h2, .ref h3, .ref h4])), (h1, .inl (cI, 9, .inl (zA so))), (h2, .inl (cI, 9, .inl (zA le))), (h3, .inl (cI, 9, .inl (zA ri))), (h4, .inl (cI, 9, .inl (zA ti))), (p0, .inr (1, [.int (zI (pk st)), .int (zI u), .int (zI li), .int (zI kn), .ref p1, .ref p2])), (p1, .inl (cI, 9, .inl (zA al))), (p2, .inl (cI, 20, .inl (zA ah)))]) (fun u => (u = if k = -1 then -9 else k)) := by
  refine MetW.intro (cc := cX5_lodge) (maxL := 3) (ret := (some .int)) (by decide) rfl (Nat.le_of_ble_eq_true rfl) ?_
  intro p e s m args below meth c A hx hb hr hlocks hml hts hown hP hK hD hS hA hE ls hl
  have hown : s.vm.findClass RX5 = some m.cls := hown
  have hl : lv_has ls 3 [(0, .ref w0), (1, .int (zI k))] := hl
  generalize hRM : ({ frames := 1, cells := 0, slots := 0, locals := 21 } : Room) = RM
  generalize hQQ : MQ below (QW (S := (Int)) (dC, dI) vwCl A (fun u => some (.int (zI lo))) (fun u => [(w0, .inr (4, [.ref x0, .ref h0, .ref g0, .ref p0, .ref q0, .ref r0, .int (zI fk), .int (zI sk), .ref t0, .ref b1, .ref b2, .long tr])), (h0, .inr (0, [.int (zI n), .ref h1, .ref h2, .ref h3, .ref h4])), (h1, .inl (cI, 9, .inl (zA so))), (h2, .inl (cI, 9, .inl (zA le))), (h3, .inl (cI, 9, .inl (zA ri))), (h4, .inl (cI, 9, .inl (zA ti))), (p0, .inr (1, [.int (zI (pk st)), .int (zI u), .int (zI li), .int (zI kn), .ref p1, .ref p2])), (p1, .inl (cI, 9, .inl (zA al))), (p2, .inl (cI, 20, .inl (zA ah)))]) (fun u => (u = if k = -1 then -9 else k))) args s 0 0 A = QQ
  have in_X1 : ∀ w ∈ wsX10, w ∈ wsX5_lodge := by decide +kernel
  have in_X5 : ∀ w ∈ wsX50, w ∈ wsX5_lodge := by decide +kernel
  have w_0 := hts (.fieldLink RX5 29 "WallMarbles" "present" "LWallMarbles$Present;") (by decide +kernel)
  have w_1 := hts (.fieldLink RX5 19 "WallMarbles" "built" "LWallMarbles$House;") (by decide +kernel)
  have n_116 := va_Nw.use (A := args) rfl (zN_4 hE)
  have hn := hh.1
  refine lv_iload_n hx hb dX5_lodge_0 rfl (lv_at hl 1 rfl) ?_
  refine zv_iconst hx hb dX5_lodge_1 ?_
  refine zv_icmp_eq (tgt := 18) hx hb (by omega) (by omega) dX5_lodge_2 (by decide) (fun c_2 => ?_) (fun c_2 => ?_)
  · refine lv_aload_n hx hb dX5_lodge_18 rfl (lv_at hl 0 rfl) ?_
    refine va_get (D := (dC, dI)) (ci := 4) (v := .ref p0) (C := RX5) (T := TX5) (N := 12) hx hb hts in_X5 hown hK hP 0 rfl rfl 3 (by decide) w_0 (fun _ h9 => h9) rfl dX5_lodge_19 ?_
    refine va_getN (D := (dC, dI)) (ci := 1) (v := .int (zI lo)) (C := RX1) (T := TX1) (N := 6) hx hb hts in_X1 hown hK hP 6 rfl rfl 1 (by decide) n_116 (fun _ h9 => h9) rfl dX5_lodge_22 ?_
    refine lv_istore_n (lv' := [(2, .int (zI lo)), (0, .ref w0), (1, .int (zI k))]) hx hb dX5_lodge_25 rfl hl (by decide) rfl (fun ls hl => ?_)
    refine lv_aload_n hx hb dX5_lodge_26 rfl (lv_at hl 1 rfl) ?_
    refine va_get (D := (dC, dI)) (ci := 4) (v := .ref p0) (C := RX5) (T := TX5) (N := 12) hx hb hts in_X5 hown hK hP 0 rfl rfl 3 (by decide) w_0 (fun _ h9 => h9) rfl dX5_lodge_27 ?_
    refine lv_iload_n hx hb dX5_lodge_30 rfl (lv_at hl 2 rfl) ?_
    refine zv_iconst hx hb dX5_lodge_31 ?_
    refine zv_icmp_ne (tgt := 40) hx hb (by omega) (by omega) dX5_lodge_32 (by decide) (fun c_32 => ?_) (fun c_32 => ?_)
    · refine lv_iload_n hx hb dX5_lodge_40 rfl (lv_at hl 2 rfl) ?_
      refine va_putN (D := (dC, dI)) (ci := 1) (v := .int (zI k)) (ty := .int) (C := RX1) (T := TX1) (N := 6) hx hb hts in_X1 tyX1 tyX1_ok nmX1 hown hK hP hD hS 6 rfl rfl 1 (by decide) n_116 (fun _ h9 => h9) rfl (by decide +kernel) rfl rfl (Nat.le_of_ble_eq_true rfl) dX5_lodge_41 (fun H locs hP hD hS => ?_)
      have hP : va_P (dC, dI) vwCl [(w0, .inr (4, [.ref x0, .ref h0, .ref g0, .ref p0, .ref q0, .ref r0, .int (zI fk), .int (zI sk), .ref t0, .ref b1, .ref b2, .long tr])), (h0, .inr (0, [.int (zI n), .ref h1, .ref h2, .ref h3, .ref h4])), (h1, .inl (cI, 9, .inl (zA so))), (h2, .inl (cI, 9, .inl (zA le))), (h3, .inl (cI, 9, .inl (zA ri))), (h4, .inl (cI, 9, .inl (zA ti))), (p0, .inr (1, [.int (zI (pk st)), .int (zI k), .int (zI li), .int (zI kn), .ref p1, .ref p2])), (p1, .inl (cI, 9, .inl (zA al))), (p2, .inl (cI, 20, .inl (zA ah)))] H := hP
      have hD : va_D A [(w0, .inr (4, [.ref x0, .ref h0, .ref g0, .ref p0, .ref q0, .ref r0, .int (zI fk), .int (zI sk), .ref t0, .ref b1, .ref b2, .long tr])), (h0, .inr (0, [.int (zI n), .ref h1, .ref h2, .ref h3, .ref h4])), (h1, .inl (cI, 9, .inl (zA so))), (h2, .inl (cI, 9, .inl (zA le))), (h3, .inl (cI, 9, .inl (zA ri))), (h4, .inl (cI, 9, .inl (zA ti))), (p0, .inr (1, [.int (zI (pk st)), .int (zI k), .int (zI li), .int (zI kn), .ref p1, .ref p2])), (p1, .inl (cI, 9, .inl (zA al))), (p2, .inl (cI, 20, .inl (zA ah)))] := hD
      refine lv_iload_n hx hb dX5_lodge_44 rfl (lv_at hl 0 rfl) ?_
      rw [← hQQ]
      exact zw_iret hx hb hr hlocks (k) rfl (by first | exact (if_pos (by omega)).symm | exact (if_neg (by omega)).symm) hP hS dX5_lodge_45
    · refine zv_bipush hx hb dX5_lodge_35 (by decide +kernel) ?_
      refine lv_goto (tgt := 41) hx hb dX5_lodge_37 (by decide) ?_
      refine va_putN (D := (dC, dI)) (ci := 1) (v := .int (zI ((-9)))) (ty := .int) (C := RX1) (T := TX1) (N := 6) hx hb hts in_X1 tyX1 tyX1_ok nmX1 hown hK hP hD hS 6 rfl rfl 1 (by decide) n_116 (fun _ h9 => h9) rfl (by decide +kernel) rfl rfl (Nat.le_of_ble_eq_true rfl) dX5_lodge_41 (fun H locs hP hD hS => ?_)
      have hP : va_P (dC, dI) vwCl [(w0, .inr (4, [.ref x0, .ref h0, .ref g0, .ref p0, .ref q0, .ref r0, .int (zI fk), .int (zI sk), .ref t0, .ref b1, .ref b2, .long tr])), (h0, .inr (0, [.int (zI n), .ref h1, .ref h2, .ref h3, .ref h4])), (h1, .inl (cI, 9, .inl (zA so))), (h2, .inl (cI, 9, .inl (zA le))), (h3, .inl (cI, 9, .inl (zA ri))), (h4, .inl (cI, 9, .inl (zA ti))), (p0, .inr (1, [.int (zI (pk st)), .int (zI ((-9))), .int (zI li), .int (zI kn), .ref p1, .ref p2])), (p1, .inl (cI, 9, .inl (zA al))), (p2, .inl (cI, 20, .inl (zA ah)))] H := hP
      have hD : va_D A [(w0, .inr (4, [.ref x0, .ref h0, .ref g0, .ref p0, .ref q0, .ref r0, .int (zI fk), .int (zI sk), .ref t0, .ref b1, .ref b2, .long tr])), (h0, .inr (0, [.int (zI n), .ref h1, .ref h2, .ref h3, .ref h4])), (h1, .inl (cI, 9, .inl (zA so))), (h2, .inl (cI, 9, .inl (zA le))), (h3, .inl (cI, 9, .inl (zA ri))), (h4, .inl (cI, 9, .inl (zA ti))), (p0, .inr (1, [.int (zI (pk st)), .int (zI ((-9))), .int (zI li), .int (zI kn), .ref p1, .ref p2])), (p1, .inl (cI, 9, .inl (zA al))), (p2, .inl (cI, 20, .inl (zA ah)))] := hD
      refine lv_iload_n hx hb dX5_lodge_44 rfl (lv_at hl 0 rfl) ?_
      rw [← hQQ]
      exact zw_iret hx hb hr hlocks ((-9)) rfl (by first | exact (if_pos (by omega)).symm | exact (if_neg (by omega)).symm) hP hS dX5_lodge_45
  · refine lv_aload_n hx hb dX5_lodge_5 rfl (lv_at hl 0 rfl) ?_
    refine va_get (D := (dC, dI)) (ci := 4) (v := .ref h0) (C := RX5) (T := TX5) (N := 12) hx hb hts in_X5 hown hK hP 0 rfl rfl 1 (by decide) w_1 (fun _ h9 => h9) rfl dX5_lodge_6 ?_
    refine lv_iload_n hx hb dX5_lodge_9 rfl (lv_at hl 1 rfl) ?_
    refine zv_callRV (As := [.int (zI k)]) (rest := []) ⟨hx, hb, hml, hown, hts⟩ (c_X0_has l dC dI cI cB cZ h0 h1 h2 h3 h4 n so le ri ti k (by omega) (by omega)) (cwV 1 hts gX5_lodge_X0_has rfl rfl rfl (by decide +kernel) ⟨by rw [← hRM]; first | decide | (dsimp only; omega), by rw [← hRM]; first | decide | (dsimp only; omega)⟩) hP hK [1, 2, 3, 4, 5] rfl [0, 1, 2] rfl zN_bl (zN_go hE) (q0 := 0) rfl rfl rfl rfl hl.1 rfl (Nat.le_of_ble_eq_true rfl) dX5_lodge_10 ⟨Nat.zero_le _, Nat.zero_le _⟩ ?_
    refine zv_ifne_b (tgt := 18) hx hb dX5_lodge_13 (by decide) (fun c_13 => ?_) (fun c_13 => ?_)
    · refine lv_aload_n hx hb dX5_lodge_18 rfl (lv_at hl 0 rfl) ?_
      refine va_get (D := (dC, dI)) (ci := 4) (v := .ref p0) (C := RX5) (T := TX5) (N := 12) hx hb hts in_X5 hown hK hP 0 rfl rfl 3 (by decide) w_0 (fun _ h9 => h9) rfl dX5_lodge_19 ?_
      refine va_getN (D := (dC, dI)) (ci := 1) (v := .int (zI lo)) (C := RX1) (T := TX1) (N := 6) hx hb hts in_X1 hown hK hP 6 rfl rfl 1 (by decide) n_116 (fun _ h9 => h9) rfl dX5_lodge_22 ?_
      refine lv_istore_n (lv' := [(2, .int (zI lo)), (0, .ref w0), (1, .int (zI k))]) hx hb dX5_lodge_25 rfl hl (by decide) rfl (fun ls hl => ?_)
      refine lv_aload_n hx hb dX5_lodge_26 rfl (lv_at hl 1 rfl) ?_
      refine va_get (D := (dC, dI)) (ci := 4) (v := .ref p0) (C := RX5) (T := TX5) (N := 12) hx hb hts in_X5 hown hK hP 0 rfl rfl 3 (by decide) w_0 (fun _ h9 => h9) rfl dX5_lodge_27 ?_
      refine lv_iload_n hx hb dX5_lodge_30 rfl (lv_at hl 2 rfl) ?_
      refine zv_iconst hx hb dX5_lodge_31 ?_
      refine zv_icmp_ne (tgt := 40) hx hb (by omega) (by omega) dX5_lodge_32 (by decide) (fun c_32 => ?_) (fun c_32 => ?_)
      · refine lv_iload_n hx hb dX5_lodge_40 rfl (lv_at hl 2 rfl) ?_
        refine va_putN (D := (dC, dI)) (ci := 1) (v := .int (zI k)) (ty := .int) (C := RX1) (T := TX1) (N := 6) hx hb hts in_X1 tyX1 tyX1_ok nmX1 hown hK hP hD hS 6 rfl rfl 1 (by decide) n_116 (fun _ h9 => h9) rfl (by decide +kernel) rfl rfl (Nat.le_of_ble_eq_true rfl) dX5_lodge_41 (fun H locs hP hD hS => ?_)
        have hP : va_P (dC, dI) vwCl [(w0, .inr (4, [.ref x0, .ref h0, .ref g0, .ref p0, .ref q0, .ref r0, .int (zI fk), .int (zI sk), .ref t0, .ref b1, .ref b2, .long tr])), (h0, .inr (0, [.int (zI n), .ref h1, .ref h2, .ref h3, .ref h4])), (h1, .inl (cI, 9, .inl (zA so))), (h2, .inl (cI, 9, .inl (zA le))), (h3, .inl (cI, 9, .inl (zA ri))), (h4, .inl (cI, 9, .inl (zA ti))), (p0, .inr (1, [.int (zI (pk st)), .int (zI k), .int (zI li), .int (zI kn), .ref p1, .ref p2])), (p1, .inl (cI, 9, .inl (zA al))), (p2, .inl (cI, 20, .inl (zA ah)))] H := hP
        have hD : va_D A [(w0, .inr (4, [.ref x0, .ref h0, .ref g0, .ref p0, .ref q0, .ref r0, .int (zI fk), .int (zI sk), .ref t0, .ref b1, .ref b2, .long tr])), (h0, .inr (0, [.int (zI n), .ref h1, .ref h2, .ref h3, .ref h4])), (h1, .inl (cI, 9, .inl (zA so))), (h2, .inl (cI, 9, .inl (zA le))), (h3, .inl (cI, 9, .inl (zA ri))), (h4, .inl (cI, 9, .inl (zA ti))), (p0, .inr (1, [.int (zI (pk st)), .int (zI k), .int (zI li), .int (zI kn), .ref p1, .ref p2])), (p1, .inl (cI, 9, .inl (zA al))), (p2, .inl (cI, 20, .inl (zA ah)))] := hD
        refine lv_iload_n hx hb dX5_lodge_44 rfl (lv_at hl 0 rfl) ?_
        rw [← hQQ]
        exact zw_iret hx hb hr hlocks (k) rfl (by first | exact (if_pos (by omega)).symm | exact (if_neg (by omega)).symm) hP hS dX5_lodge_45
      · refine zv_bipush hx hb dX5_lodge_35 (by decide +kernel) ?_
        refine lv_goto (tgt := 41) hx hb dX5_lodge_37 (by decide) ?_
        refine va_putN (D := (dC, dI)) (ci := 1) (v := .int (zI ((-9)))) (ty := .int) (C := RX1) (T := TX1) (N := 6) hx hb hts in_X1 tyX1 tyX1_ok nmX1 hown hK hP hD hS 6 rfl rfl 1 (by decide) n_116 (fun _ h9 => h9) rfl (by decide +kernel) rfl rfl (Nat.le_of_ble_eq_true rfl) dX5_lodge_41 (fun H locs hP hD hS => ?_)
        have hP : va_P (dC, dI) vwCl [(w0, .inr (4, [.ref x0, .ref h0, .ref g0, .ref p0, .ref q0, .ref r0, .int (zI fk), .int (zI sk), .ref t0, .ref b1, .ref b2, .long tr])), (h0, .inr (0, [.int (zI n), .ref h1, .ref h2, .ref h3, .ref h4])), (h1, .inl (cI, 9, .inl (zA so))), (h2, .inl (cI, 9, .inl (zA le))), (h3, .inl (cI, 9, .inl (zA ri))), (h4, .inl (cI, 9, .inl (zA ti))), (p0, .inr (1, [.int (zI (pk st)), .int (zI ((-9))), .int (zI li), .int (zI kn), .ref p1, .ref p2])), (p1, .inl (cI, 9, .inl (zA al))), (p2, .inl (cI, 20, .inl (zA ah)))] H := hP
        have hD : va_D A [(w0, .inr (4, [.ref x0, .ref h0, .ref g0, .ref p0, .ref q0, .ref r0, .int (zI fk), .int (zI sk), .ref t0, .ref b1, .ref b2, .long tr])), (h0, .inr (0, [.int (zI n), .ref h1, .ref h2, .ref h3, .ref h4])), (h1, .inl (cI, 9, .inl (zA so))), (h2, .inl (cI, 9, .inl (zA le))), (h3, .inl (cI, 9, .inl (zA ri))), (h4, .inl (cI, 9, .inl (zA ti))), (p0, .inr (1, [.int (zI (pk st)), .int (zI ((-9))), .int (zI li), .int (zI kn), .ref p1, .ref p2])), (p1, .inl (cI, 9, .inl (zA al))), (p2, .inl (cI, 20, .inl (zA ah)))] := hD
        refine lv_iload_n hx hb dX5_lodge_44 rfl (lv_at hl 0 rfl) ?_
        rw [← hQQ]
        exact zw_iret hx hb hr hlocks ((-9)) rfl (by first | exact (if_pos (by omega)).symm | exact (if_neg (by omega)).symm) hP hS dX5_lodge_45
    · exfalso; omega
set_option maxHeartbeats 4000000 in
set_option maxRecDepth 100000 in
theorem c_X5_now (l : Launch) (dC : Nat → ClassId) (dI : Nat → Nat → Nat) (cI cB cZ : ClassId) (w0 : Nat) (x0 : Nat) (h0 : Nat) (g0 : Nat) (p0 : Nat) (q0 : Nat) (r0 : Nat) (fk : Int) (sk : Int) (t0 : Nat) (b1 : Nat) (b2 : Nat) (tr : Int64) (h1 : Nat) (h2 : Nat) (h3 : Nat) (h4 : Nat) (n : Int) (so : Int → Int) (le : Int → Int) (ri : Int → Int) (ti : Int → Int) (p1 : Nat) (p2 : Nat) (st : Int → Int) (lo : Int) (li : Int) (kn : Int) (al : Int → Int) (ah : Int → Int) (w : Int) (hh : hOk n so le ri ti) (hs : sOk n so ti st) (hwr : -2147483648 ≤ w ∧ w ≤ 2147483647) : MetR l yX5_now wsX5_now ({ frames := 3, cells := 0, slots := 0, locals := 65 }) (dC, dI) vwCl (zT cI cB cZ) zN [(w0, .inr (4, [.ref x0, .ref h0, .ref g0, .ref p0, .ref q0, .ref r0, .int (zI fk), .int (zI sk), .ref t0, .ref b1, .ref b2, .long tr])), (h0, .inr (0, [.int (zI n), .ref h1, .ref h2, .ref h3, .ref h4])), (h1, .inl (cI, 9, .inl (zA so))), (h2, .inl (cI, 9, .inl (zA le))), (h3, .inl (cI, 9, .inl (zA ri))), (h4, .inl (cI, 9, .inl (zA ti))), (p0, .inr (1, [.int (zI (pk st)), .int (zI lo), .int (zI li), .int (zI kn), .ref p1, .ref p2])), (p1, .inl (cI, 9, .inl (zA al))), (p2, .inl (cI, 20, .inl (zA ah)))] [.ref w0, .int (zI w)] (zI (q_now n so st lo li al w)) := by
  refine MetR.intro (cc := cX5_now) (maxL := 2) (ret := (some .int)) (by decide) rfl (Nat.le_of_ble_eq_true rfl) ?_
  intro p e s m args below meth c hx hb hr hlocks hml hts hown hP hK hE ls hl
  have hown : s.vm.findClass RX5 = some m.cls := hown
  have hl : lv_has ls 2 [(0, .ref w0), (1, .int (zI w))] := hl
  generalize hRM : ({ frames := 3, cells := 0, slots := 0, locals := 65 } : Room) = RM
  generalize hQQ : MQ below (vp_Si (fun r => r = zI (q_now n so st lo li al w))) args s 0 0 (fun _ => False) = QQ
  have in_X1 : ∀ w ∈ wsX10, w ∈ wsX5_now := by decide +kernel
  have in_X5 : ∀ w ∈ wsX50, w ∈ wsX5_now := by decide +kernel
  have w_0 := hts (.fieldLink RX5 29 "WallMarbles" "present" "LWallMarbles$Present;") (by decide +kernel)
  have w_1 := hts (.fieldLink RX5 19 "WallMarbles" "built" "LWallMarbles$House;") (by decide +kernel)
  have n_113 := va_Nw.use (A := args) rfl (zN_5 hE)
  have n_116 := va_Nw.use (A := args) rfl (zN_4 hE)
  have n_98 := va_Nw.use (A := args) rfl (zN_3 hE)
  have hn := hh.1
  refine lv_iload_n hx hb dX5_now_0 rfl (lv_at hl 1 rfl) ?_
  rcases (show w = 0 ∨ w = 1 ∨ w = 2 ∨ w = 3 ∨ (w < 0 ∨ 3 < w) by omega) with c_1 | c_1 | c_1 | c_1 | c_1
  · refine zv_tableIn (k := 0) (tgt := 32) hx hb (by omega) c_1 (by omega) dX5_now_1 rfl (by decide) ?_
    refine lv_aload_n hx hb dX5_now_32 rfl (lv_at hl 0 rfl) ?_
    refine va_get (D := (dC, dI)) (ci := 4) (v := .ref p0) (C := RX5) (T := TX5) (N := 12) hx hb hts in_X5 hown hK hP 0 rfl rfl 3 (by decide) w_0 (fun _ h9 => h9) rfl dX5_now_33 ?_
    refine va_getN (D := (dC, dI)) (ci := 1) (v := .int (zI li)) (C := RX1) (T := TX1) (N := 6) hx hb hts in_X1 hown hK hP 6 rfl rfl 2 (by decide) n_113 (fun _ h9 => h9) rfl dX5_now_36 ?_
    rw [← hQQ]
    exact zr_iret hx hb hr hlocks (congrArg zI (show li = q_now n so st lo li al w from by unfold q_now; (repeat' split) <;> first | rfl | omega)) dX5_now_39
  · refine zv_tableIn (k := 1) (tgt := 40) hx hb (by omega) c_1 (by omega) dX5_now_1 rfl (by decide) ?_
    refine lv_aload_n hx hb dX5_now_40 rfl (lv_at hl 0 rfl) ?_
    refine va_get (D := (dC, dI)) (ci := 4) (v := .ref p0) (C := RX5) (T := TX5) (N := 12) hx hb hts in_X5 hown hK hP 0 rfl rfl 3 (by decide) w_0 (fun _ h9 => h9) rfl dX5_now_41 ?_
    refine zv_callRV (As := []) (rest := []) ⟨hx, hb, hml, hown, hts⟩ (c_X1_atAll l dC dI cI cB cZ p0 p1 p2 (pk st) lo li kn al ah ) (cwV 0 hts gX5_now_X1_atAll rfl rfl rfl (by decide +kernel) ⟨by rw [← hRM]; first | decide | (dsimp only; omega), by rw [← hRM]; first | decide | (dsimp only; omega)⟩) hP hK [6, 7, 8] rfl [0, 1, 2] rfl zN_bl (zN_go hE) (q0 := 0) rfl rfl rfl rfl hl.1 rfl (Nat.le_of_ble_eq_true rfl) dX5_now_44 ⟨Nat.zero_le _, Nat.zero_le _⟩ ?_
    rw [← hQQ]
    exact zr_iret hx hb hr hlocks (congrArg zI (show sF al 9 = q_now n so st lo li al w from by unfold q_now; (repeat' split) <;> first | rfl | omega)) dX5_now_47
  · refine zv_tableIn (k := 2) (tgt := 48) hx hb (by omega) c_1 (by omega) dX5_now_1 rfl (by decide) ?_
    refine lv_aload_n hx hb dX5_now_48 rfl (lv_at hl 0 rfl) ?_
    refine va_get (D := (dC, dI)) (ci := 4) (v := .ref p0) (C := RX5) (T := TX5) (N := 12) hx hb hts in_X5 hown hK hP 0 rfl rfl 3 (by decide) w_0 (fun _ h9 => h9) rfl dX5_now_49 ?_
    refine va_getN (D := (dC, dI)) (ci := 1) (v := .int (zI lo)) (C := RX1) (T := TX1) (N := 6) hx hb hts in_X1 hown hK hP 6 rfl rfl 1 (by decide) n_116 (fun _ h9 => h9) rfl dX5_now_52 ?_
    rw [← hQQ]
    exact zr_iret hx hb hr hlocks (congrArg zI (show lo = q_now n so st lo li al w from by unfold q_now; (repeat' split) <;> first | rfl | omega)) dX5_now_55
  · refine zv_tableIn (k := 3) (tgt := 56) hx hb (by omega) c_1 (by omega) dX5_now_1 rfl (by decide) ?_
    refine lv_aload_n hx hb dX5_now_56 rfl (lv_at hl 0 rfl) ?_
    refine va_get (D := (dC, dI)) (ci := 4) (v := .ref h0) (C := RX5) (T := TX5) (N := 12) hx hb hts in_X5 hown hK hP 0 rfl rfl 1 (by decide) w_1 (fun _ h9 => h9) rfl dX5_now_57 ?_
    refine lv_aload_n hx hb dX5_now_60 rfl (lv_at hl 0 rfl) ?_
    refine va_get (D := (dC, dI)) (ci := 4) (v := .ref p0) (C := RX5) (T := TX5) (N := 12) hx hb hts in_X5 hown hK hP 0 rfl rfl 3 (by decide) w_0 (fun _ h9 => h9) rfl dX5_now_61 ?_
    refine va_getN (D := (dC, dI)) (ci := 1) (v := .int (zI (pk st))) (C := RX1) (T := TX1) (N := 6) hx hb hts in_X1 hown hK hP 6 rfl rfl 0 (by decide) n_98 (fun _ h9 => h9) rfl dX5_now_64 ?_
    refine zv_callRV (As := [.int (zI (pk st))]) (rest := []) ⟨hx, hb, hml, hown, hts⟩ (c_X0_cupsHolding l dC dI cI cB cZ h0 h1 h2 h3 h4 n so le ri ti st (by exact hh) (by exact hs)) (cwV 1 hts gX5_now_X0_cupsHolding rfl rfl rfl (by decide +kernel) ⟨by rw [← hRM]; first | decide | (dsimp only; omega), by rw [← hRM]; first | decide | (dsimp only; omega)⟩) hP hK [1, 2, 3, 4, 5] rfl [0, 1, 2] rfl zN_bl (zN_go hE) (q0 := 0) rfl rfl rfl rfl hl.1 rfl (Nat.le_of_ble_eq_true rfl) dX5_now_67 ⟨Nat.zero_le _, Nat.zero_le _⟩ ?_
    rw [← hQQ]
    exact zr_iret hx hb hr hlocks (congrArg zI (show sF (gC so st) n.toNat = q_now n so st lo li al w from by unfold q_now; (repeat' split) <;> first | rfl | omega)) dX5_now_70
  · refine zv_tableOut (tgt := 71) hx hb (by omega) c_1 dX5_now_1 (by decide) ?_
    refine zv_iconst hx hb dX5_now_71 ?_
    rw [← hQQ]
    exact zr_iret hx hb hr hlocks (congrArg zI (show (-1) = q_now n so st lo li al w from by unfold q_now; (repeat' split) <;> first | rfl | omega)) dX5_now_72
set_option maxHeartbeats 4000000 in
set_option maxRecDepth 100000 in
theorem c_X5_triedN (l : Launch) (dC : Nat → ClassId) (dI : Nat → Nat → Nat) (cI cB cZ : ClassId) (w0 : Nat) (x0 : Nat) (h0 : Nat) (g0 : Nat) (p0 : Nat) (q0 : Nat) (r0 : Nat) (fk : Int) (sk : Int) (t0 : Nat) (b1 : Nat) (b2 : Nat) (tr : Int64) (h1 : Nat) (h2 : Nat) (h3 : Nat) (h4 : Nat) (n : Int) (so : Int → Int) (le : Int → Int) (ri : Int → Int) (ti : Int → Int) (t1 : Nat) (t2 : Nat) (tn : Int) (ts : Int → Int) (tc : Int → Int) (sz : Int) (cm : Int) (hh : hOk n so le ri ti) (htn : 0 ≤ tn ∧ tn ≤ 9) (hsz : -2147483648 ≤ sz ∧ sz ≤ 2147483647) (hcm : -2147483648 ≤ cm ∧ cm ≤ 2147483647) (hno : ¬ (((sz = 0 ∨ sz = 1) ∧ (cm = -9 ∨ ((0 ≤ cm ∧ cm < n) ∧ so cm = 0))) ∧ tn < 9)) : MetR l yX5_tried wsX5_tried ({ frames := 2, cells := 0, slots := 0, locals := 42 }) (dC, dI) vwCl (zT cI cB cZ) zN [(w0, .inr (4, [.ref x0, .ref h0, .ref g0, .ref p0, .ref q0, .ref r0, .int (zI fk), .int (zI sk), .ref t0, .ref b1, .ref b2, .long tr])), (h0, .inr (0, [.int (zI n), .ref h1, .ref h2, .ref h3, .ref h4])), (h1, .inl (cI, 9, .inl (zA so))), (h2, .inl (cI, 9, .inl (zA le))), (h3, .inl (cI, 9, .inl (zA ri))), (h4, .inl (cI, 9, .inl (zA ti))), (t0, .inr (3, [.int (zI tn), .ref t1, .ref t2])), (t1, .inl (cI, 9, .inl (zA ts))), (t2, .inl (cI, 9, .inl (zA tc)))] [.ref w0, .int (zI sz), .int (zI cm)] (zI (q_triN n so tn sz cm)) := by
  refine MetR.intro (cc := cX5_tried) (maxL := 3) (ret := (some .int)) (by decide) rfl (Nat.le_of_ble_eq_true rfl) ?_
  intro p e s m args below meth c hx hb hr hlocks hml hts hown hP hK hE ls hl
  have hown : s.vm.findClass RX5 = some m.cls := hown
  have hl : lv_has ls 3 [(0, .ref w0), (1, .int (zI sz)), (2, .int (zI cm))] := hl
  generalize hRM : ({ frames := 2, cells := 0, slots := 0, locals := 42 } : Room) = RM
  generalize hQQ : MQ below (vp_Si (fun r => r = zI (q_triN n so tn sz cm))) args s 0 0 (fun _ => False) = QQ
  have in_X4 : ∀ w ∈ wsX40, w ∈ wsX5_tried := by decide +kernel
  have in_X5 : ∀ w ∈ wsX50, w ∈ wsX5_tried := by decide +kernel
  have w_0 := hts (.fieldLink RX5 42 "WallMarbles" "trials" "LWallMarbles$Trials;") (by decide +kernel)
  have w_1 := hts (.fieldLink RX5 19 "WallMarbles" "built" "LWallMarbles$House;") (by decide +kernel)
  have n_68 := va_Nw.use (A := args) rfl (zN_7 hE)
  have hn := hh.1
  refine lv_iload_n hx hb dX5_tried_0 rfl (lv_at hl 1 rfl) ?_
  refine zv_callRS (As := [.int (zI sz)]) (rest := []) ⟨hx, hb, hml, hown, hts⟩ (c_X5_isSize l dC dI cI cB cZ sz (by omega)) (va_cwS 1 hts gX5_tried_X5_isSize rfl rfl rfl (by decide +kernel) ⟨by rw [← hRM]; first | decide | (dsimp only; omega), by rw [← hRM]; first | decide | (dsimp only; omega)⟩) hP hK [] rfl [0, 1, 2] rfl zN_bl (zN_go hE) rfl hl.1 rfl (Nat.le_of_ble_eq_true rfl) dX5_tried_1 ⟨Nat.zero_le _, Nat.zero_le _⟩ ?_
  refine zv_ifeq_b (tgt := 24) hx hb dX5_tried_4 (by decide) (fun c_4 => ?_) (fun c_4 => ?_)
  · refine zv_iconst hx hb dX5_tried_24 ?_
    rw [← hQQ]
    exact zr_iret hx hb hr hlocks (congrArg zI (show (-1) = q_triN n so tn sz cm from by unfold q_triN; (repeat' split) <;> first | rfl | omega)) dX5_tried_25
  · refine lv_iload_n hx hb dX5_tried_7 rfl (lv_at hl 2 rfl) ?_
    refine zv_bipush hx hb dX5_tried_8 (by decide +kernel) ?_
    refine zv_icmp_eq (tgt := 26) hx hb (by omega) (by omega) dX5_tried_10 (by decide) (fun c_10 => ?_) (fun c_10 => ?_)
    · refine lv_aload_n hx hb dX5_tried_26 rfl (lv_at hl 0 rfl) ?_
      refine va_get (D := (dC, dI)) (ci := 4) (v := .ref t0) (C := RX5) (T := TX5) (N := 12) hx hb hts in_X5 hown hK hP 0 rfl rfl 8 (by decide) w_0 (fun _ h9 => h9) rfl dX5_tried_27 ?_
      refine va_getN (D := (dC, dI)) (ci := 3) (v := .int (zI tn)) (C := RX4) (T := TX4) (N := 3) hx hb hts in_X4 hown hK hP 6 rfl rfl 0 (by decide) n_68 (fun _ h9 => h9) rfl dX5_tried_30 ?_
      refine zv_bipush hx hb dX5_tried_33 (by decide +kernel) ?_
      refine zv_icmp_lt (tgt := 41) hx hb (by omega) (by omega) dX5_tried_35 (by decide) (fun c_35 => ?_) (fun c_35 => ?_)
      · exfalso; omega
      · refine zv_bipush hx hb dX5_tried_38 (by decide +kernel) ?_
        rw [← hQQ]
        exact zr_iret hx hb hr hlocks (congrArg zI (show (-3) = q_triN n so tn sz cm from by unfold q_triN; (repeat' split) <;> first | rfl | omega)) dX5_tried_40
    · refine lv_aload_n hx hb dX5_tried_13 rfl (lv_at hl 0 rfl) ?_
      refine va_get (D := (dC, dI)) (ci := 4) (v := .ref h0) (C := RX5) (T := TX5) (N := 12) hx hb hts in_X5 hown hK hP 0 rfl rfl 1 (by decide) w_1 (fun _ h9 => h9) rfl dX5_tried_14 ?_
      refine lv_iload_n hx hb dX5_tried_17 rfl (lv_at hl 2 rfl) ?_
      refine zv_callRV (As := [.int (zI cm)]) (rest := []) ⟨hx, hb, hml, hown, hts⟩ (c_X0_isLanding l dC dI cI cB cZ h0 h1 h2 h3 h4 n so le ri ti cm (by exact hh) (by omega)) (cwV 1 hts gX5_tried_X0_isLanding rfl rfl rfl (by decide +kernel) ⟨by rw [← hRM]; first | decide | (dsimp only; omega), by rw [← hRM]; first | decide | (dsimp only; omega)⟩) hP hK [1, 2, 3, 4, 5] rfl [0, 1, 2] rfl zN_bl (zN_go hE) (q0 := 0) rfl rfl rfl rfl hl.1 rfl (Nat.le_of_ble_eq_true rfl) dX5_tried_18 ⟨Nat.zero_le _, Nat.zero_le _⟩ ?_
      refine zv_ifne_b (tgt := 26) hx hb dX5_tried_21 (by decide) (fun c_21 => ?_) (fun c_21 => ?_)
      · refine lv_aload_n hx hb dX5_tried_26 rfl (lv_at hl 0 rfl) ?_
        refine va_get (D := (dC, dI)) (ci := 4) (v := .ref t0) (C := RX5) (T := TX5) (N := 12) hx hb hts in_X5 hown hK hP 0 rfl rfl 8 (by decide) w_0 (fun _ h9 => h9) rfl dX5_tried_27 ?_
        refine va_getN (D := (dC, dI)) (ci := 3) (v := .int (zI tn)) (C := RX4) (T := TX4) (N := 3) hx hb hts in_X4 hown hK hP 6 rfl rfl 0 (by decide) n_68 (fun _ h9 => h9) rfl dX5_tried_30 ?_
        refine zv_bipush hx hb dX5_tried_33 (by decide +kernel) ?_
        refine zv_icmp_lt (tgt := 41) hx hb (by omega) (by omega) dX5_tried_35 (by decide) (fun c_35 => ?_) (fun c_35 => ?_)
        · exfalso; omega
        · refine zv_bipush hx hb dX5_tried_38 (by decide +kernel) ?_
          rw [← hQQ]
          exact zr_iret hx hb hr hlocks (congrArg zI (show (-3) = q_triN n so tn sz cm from by unfold q_triN; (repeat' split) <;> first | rfl | omega)) dX5_tried_40
      · refine zv_iconst hx hb dX5_tried_24 ?_
        rw [← hQQ]
        exact zr_iret hx hb hr hlocks (congrArg zI (show (-1) = q_triN n so tn sz cm from by unfold q_triN; (repeat' split) <;> first | rfl | omega)) dX5_tried_25
set_option maxHeartbeats 4000000 in
set_option maxRecDepth 100000 in
theorem c_X5_triedY (l : Launch) (dC : Nat → ClassId) (dI : Nat → Nat → Nat) (cI cB cZ : ClassId) (w0 : Nat) (x0 : Nat) (h0 : Nat) (g0 : Nat) (p0 : Nat) (q0 : Nat) (r0 : Nat) (fk : Int) (sk : Int) (t0 : Nat) (b1 : Nat) (b2 : Nat) (tr : Int64) (h1 : Nat) (h2 : Nat) (h3 : Nat) (h4 : Nat) (n : Int) (so : Int → Int) (le : Int → Int) (ri : Int → Int) (ti : Int → Int) (t1 : Nat) (t2 : Nat) (tn : Int) (ts : Int → Int) (tc : Int → Int) (sz : Int) (cm : Int) (hh : hOk n so le ri ti) (htn : 0 ≤ tn ∧ tn ≤ 9) (hsz : -2147483648 ≤ sz ∧ sz ≤ 2147483647) (hcm : -2147483648 ≤ cm ∧ cm ≤ 2147483647) (hok : ((sz = 0 ∨ sz = 1) ∧ (cm = -9 ∨ ((0 ≤ cm ∧ cm < n) ∧ so cm = 0))) ∧ tn < 9) : MetW (S := Unit) l yX5_tried wsX5_tried ({ frames := 2, cells := 0, slots := 0, locals := 42 }) (dC, dI) vwCl (zT cI cB cZ) zN [(w0, .inr (4, [.ref x0, .ref h0, .ref g0, .ref p0, .ref q0, .ref r0, .int (zI fk), .int (zI sk), .ref t0, .ref b1, .ref b2, .long tr])), (h0, .inr (0, [.int (zI n), .ref h1, .ref h2, .ref h3, .ref h4])), (h1, .inl (cI, 9, .inl (zA so))), (h2, .inl (cI, 9, .inl (zA le))), (h3, .inl (cI, 9, .inl (zA ri))), (h4, .inl (cI, 9, .inl (zA ti))), (t0, .inr (3, [.int (zI tn), .ref t1, .ref t2])), (t1, .inl (cI, 9, .inl (zA ts))), (t2, .inl (cI, 9, .inl (zA tc)))] [.ref w0, .int (zI sz), .int (zI cm)] (fun u => some (.int (zI (tn + 1)))) (fun u => [(w0, .inr (4, [.ref x0, .ref h0, .ref g0, .ref p0, .ref q0, .ref r0, .int (zI fk), .int (zI sk), .ref t0, .ref b1, .ref b2, .long tr])), (h0, .inr (0, [.int (zI n), .ref h1, .ref h2, .ref h3, .ref h4])), (h1, .inl (cI, 9, .inl (zA so))), (h2, .inl (cI, 9, .inl (zA le))), (h3, .inl (cI, 9, .inl (zA ri))), (h4, .inl (cI, 9, .inl (zA ti))), (t0, .inr (3, [.int (zI (tn + 1)), .ref t1, .ref t2])), (t1, .inl (cI, 9, .inl (zA (zu ts tn sz)))), (t2, .inl (cI, 9, .inl (zA (zu tc tn cm))))]) (fun u => True) := by
  refine MetW.intro (cc := cX5_tried) (maxL := 3) (ret := (some .int)) (by decide) rfl (Nat.le_of_ble_eq_true rfl) ?_
  intro p e s m args below meth c A hx hb hr hlocks hml hts hown hP hK hD hS hA hE ls hl
  have hown : s.vm.findClass RX5 = some m.cls := hown
  have hl : lv_has ls 3 [(0, .ref w0), (1, .int (zI sz)), (2, .int (zI cm))] := hl
  generalize hRM : ({ frames := 2, cells := 0, slots := 0, locals := 42 } : Room) = RM
  generalize hQQ : MQ below (QW (S := Unit) (dC, dI) vwCl A (fun u => some (.int (zI (tn + 1)))) (fun u => [(w0, .inr (4, [.ref x0, .ref h0, .ref g0, .ref p0, .ref q0, .ref r0, .int (zI fk), .int (zI sk), .ref t0, .ref b1, .ref b2, .long tr])), (h0, .inr (0, [.int (zI n), .ref h1, .ref h2, .ref h3, .ref h4])), (h1, .inl (cI, 9, .inl (zA so))), (h2, .inl (cI, 9, .inl (zA le))), (h3, .inl (cI, 9, .inl (zA ri))), (h4, .inl (cI, 9, .inl (zA ti))), (t0, .inr (3, [.int (zI (tn + 1)), .ref t1, .ref t2])), (t1, .inl (cI, 9, .inl (zA (zu ts tn sz)))), (t2, .inl (cI, 9, .inl (zA (zu tc tn cm))))]) (fun u => True)) args s 0 0 A = QQ
  have in_X4 : ∀ w ∈ wsX40, w ∈ wsX5_tried := by decide +kernel
  have in_X5 : ∀ w ∈ wsX50, w ∈ wsX5_tried := by decide +kernel
  have w_0 := hts (.fieldLink RX5 42 "WallMarbles" "trials" "LWallMarbles$Trials;") (by decide +kernel)
  have w_1 := hts (.fieldLink RX5 19 "WallMarbles" "built" "LWallMarbles$House;") (by decide +kernel)
  have n_68 := va_Nw.use (A := args) rfl (zN_7 hE)
  have hn := hh.1
  refine lv_iload_n hx hb dX5_tried_0 rfl (lv_at hl 1 rfl) ?_
  refine zv_callRS (As := [.int (zI sz)]) (rest := []) ⟨hx, hb, hml, hown, hts⟩ (c_X5_isSize l dC dI cI cB cZ sz (by omega)) (va_cwS 1 hts gX5_tried_X5_isSize rfl rfl rfl (by decide +kernel) ⟨by rw [← hRM]; first | decide | (dsimp only; omega), by rw [← hRM]; first | decide | (dsimp only; omega)⟩) hP hK [] rfl [0, 1, 2] rfl zN_bl (zN_go hE) rfl hl.1 rfl (Nat.le_of_ble_eq_true rfl) dX5_tried_1 ⟨Nat.zero_le _, Nat.zero_le _⟩ ?_
  refine zv_ifeq_b (tgt := 24) hx hb dX5_tried_4 (by decide) (fun c_4 => ?_) (fun c_4 => ?_)
  · exfalso; omega
  · refine lv_iload_n hx hb dX5_tried_7 rfl (lv_at hl 2 rfl) ?_
    refine zv_bipush hx hb dX5_tried_8 (by decide +kernel) ?_
    refine zv_icmp_eq (tgt := 26) hx hb (by omega) (by omega) dX5_tried_10 (by decide) (fun c_10 => ?_) (fun c_10 => ?_)
    · refine lv_aload_n hx hb dX5_tried_26 rfl (lv_at hl 0 rfl) ?_
      refine va_get (D := (dC, dI)) (ci := 4) (v := .ref t0) (C := RX5) (T := TX5) (N := 12) hx hb hts in_X5 hown hK hP 0 rfl rfl 8 (by decide) w_0 (fun _ h9 => h9) rfl dX5_tried_27 ?_
      refine va_getN (D := (dC, dI)) (ci := 3) (v := .int (zI tn)) (C := RX4) (T := TX4) (N := 3) hx hb hts in_X4 hown hK hP 6 rfl rfl 0 (by decide) n_68 (fun _ h9 => h9) rfl dX5_tried_30 ?_
      refine zv_bipush hx hb dX5_tried_33 (by decide +kernel) ?_
      refine zv_icmp_lt (tgt := 41) hx hb (by omega) (by omega) dX5_tried_35 (by decide) (fun c_35 => ?_) (fun c_35 => ?_)
      · refine lv_aload_n hx hb dX5_tried_41 rfl (lv_at hl 0 rfl) ?_
        refine va_get (D := (dC, dI)) (ci := 4) (v := .ref t0) (C := RX5) (T := TX5) (N := 12) hx hb hts in_X5 hown hK hP 0 rfl rfl 8 (by decide) w_0 (fun _ h9 => h9) rfl dX5_tried_42 ?_
        refine lv_iload_n hx hb dX5_tried_45 rfl (lv_at hl 1 rfl) ?_
        refine lv_iload_n hx hb dX5_tried_46 rfl (lv_at hl 2 rfl) ?_
        refine zv_callWV (As := [.int (zI sz), .int (zI cm)]) (rest := []) (ws2 := fun u => [(w0, .inr (4, [.ref x0, .ref h0, .ref g0, .ref p0, .ref q0, .ref r0, .int (zI fk), .int (zI sk), .ref t0, .ref b1, .ref b2, .long tr])), (h0, .inr (0, [.int (zI n), .ref h1, .ref h2, .ref h3, .ref h4])), (h1, .inl (cI, 9, .inl (zA so))), (h2, .inl (cI, 9, .inl (zA le))), (h3, .inl (cI, 9, .inl (zA ri))), (h4, .inl (cI, 9, .inl (zA ti))), (t0, .inr (3, [.int (zI (tn + 1)), .ref t1, .ref t2])), (t1, .inl (cI, 9, .inl (zA (zu ts tn sz)))), (t2, .inl (cI, 9, .inl (zA (zu tc tn cm))))]) ⟨hx, hb, hml, hown, hts⟩ (c_X4_append l dC dI cI cB cZ t0 t1 t2 tn ts tc sz cm (by omega)) (cwV 2 hts gX5_tried_X4_append rfl rfl rfl (by decide +kernel) ⟨by rw [← hRM]; first | decide | (dsimp only; omega), by rw [← hRM]; first | decide | (dsimp only; omega)⟩) hP hD hS hA hK [6, 7, 8] rfl (by decide) [0, 1, 2] rfl zN_bl (zN_go hE) (fun _ => rfl) (fun _ => rfl) (q0 := 0) rfl rfl rfl rfl hl.1 rfl (Nat.le_of_ble_eq_true rfl) dX5_tried_47 ⟨Nat.zero_le _, Nat.zero_le _⟩ (fun u H locs hpo hP hD hS => ?_)
        have hP : va_P (dC, dI) vwCl [(w0, .inr (4, [.ref x0, .ref h0, .ref g0, .ref p0, .ref q0, .ref r0, .int (zI fk), .int (zI sk), .ref t0, .ref b1, .ref b2, .long tr])), (h0, .inr (0, [.int (zI n), .ref h1, .ref h2, .ref h3, .ref h4])), (h1, .inl (cI, 9, .inl (zA so))), (h2, .inl (cI, 9, .inl (zA le))), (h3, .inl (cI, 9, .inl (zA ri))), (h4, .inl (cI, 9, .inl (zA ti))), (t0, .inr (3, [.int (zI (tn + 1)), .ref t1, .ref t2])), (t1, .inl (cI, 9, .inl (zA (zu ts tn sz)))), (t2, .inl (cI, 9, .inl (zA (zu tc tn cm))))] H := hP
        have hD : va_D A [(w0, .inr (4, [.ref x0, .ref h0, .ref g0, .ref p0, .ref q0, .ref r0, .int (zI fk), .int (zI sk), .ref t0, .ref b1, .ref b2, .long tr])), (h0, .inr (0, [.int (zI n), .ref h1, .ref h2, .ref h3, .ref h4])), (h1, .inl (cI, 9, .inl (zA so))), (h2, .inl (cI, 9, .inl (zA le))), (h3, .inl (cI, 9, .inl (zA ri))), (h4, .inl (cI, 9, .inl (zA ti))), (t0, .inr (3, [.int (zI (tn + 1)), .ref t1, .ref t2])), (t1, .inl (cI, 9, .inl (zA (zu ts tn sz)))), (t2, .inl (cI, 9, .inl (zA (zu tc tn cm))))] := hD
        refine W.eq (g2 := F0 m 50 ls []) rfl ?_
        refine lv_aload_n hx hb dX5_tried_50 rfl (lv_at hl 0 rfl) ?_
        refine va_get (D := (dC, dI)) (ci := 4) (v := .ref t0) (C := RX5) (T := TX5) (N := 12) hx hb hts in_X5 hown hK hP 0 rfl rfl 8 (by decide) w_0 (fun _ h9 => h9) rfl dX5_tried_51 ?_
        refine va_getN (D := (dC, dI)) (ci := 3) (v := .int (zI (tn + 1))) (C := RX4) (T := TX4) (N := 3) hx hb hts in_X4 hown hK hP 6 rfl rfl 0 (by decide) n_68 (fun _ h9 => h9) rfl dX5_tried_54 ?_
        rw [← hQQ]
        exact zw_iret hx hb hr hlocks () rfl trivial hP hS dX5_tried_57
      · exfalso; omega
    · refine lv_aload_n hx hb dX5_tried_13 rfl (lv_at hl 0 rfl) ?_
      refine va_get (D := (dC, dI)) (ci := 4) (v := .ref h0) (C := RX5) (T := TX5) (N := 12) hx hb hts in_X5 hown hK hP 0 rfl rfl 1 (by decide) w_1 (fun _ h9 => h9) rfl dX5_tried_14 ?_
      refine lv_iload_n hx hb dX5_tried_17 rfl (lv_at hl 2 rfl) ?_
      refine zv_callRV (As := [.int (zI cm)]) (rest := []) ⟨hx, hb, hml, hown, hts⟩ (c_X0_isLanding l dC dI cI cB cZ h0 h1 h2 h3 h4 n so le ri ti cm (by exact hh) (by omega)) (cwV 1 hts gX5_tried_X0_isLanding rfl rfl rfl (by decide +kernel) ⟨by rw [← hRM]; first | decide | (dsimp only; omega), by rw [← hRM]; first | decide | (dsimp only; omega)⟩) hP hK [1, 2, 3, 4, 5] rfl [0, 1, 2] rfl zN_bl (zN_go hE) (q0 := 0) rfl rfl rfl rfl hl.1 rfl (Nat.le_of_ble_eq_true rfl) dX5_tried_18 ⟨Nat.zero_le _, Nat.zero_le _⟩ ?_
      refine zv_ifne_b (tgt := 26) hx hb dX5_tried_21 (by decide) (fun c_21 => ?_) (fun c_21 => ?_)
      · refine lv_aload_n hx hb dX5_tried_26 rfl (lv_at hl 0 rfl) ?_
        refine va_get (D := (dC, dI)) (ci := 4) (v := .ref t0) (C := RX5) (T := TX5) (N := 12) hx hb hts in_X5 hown hK hP 0 rfl rfl 8 (by decide) w_0 (fun _ h9 => h9) rfl dX5_tried_27 ?_
        refine va_getN (D := (dC, dI)) (ci := 3) (v := .int (zI tn)) (C := RX4) (T := TX4) (N := 3) hx hb hts in_X4 hown hK hP 6 rfl rfl 0 (by decide) n_68 (fun _ h9 => h9) rfl dX5_tried_30 ?_
        refine zv_bipush hx hb dX5_tried_33 (by decide +kernel) ?_
        refine zv_icmp_lt (tgt := 41) hx hb (by omega) (by omega) dX5_tried_35 (by decide) (fun c_35 => ?_) (fun c_35 => ?_)
        · refine lv_aload_n hx hb dX5_tried_41 rfl (lv_at hl 0 rfl) ?_
          refine va_get (D := (dC, dI)) (ci := 4) (v := .ref t0) (C := RX5) (T := TX5) (N := 12) hx hb hts in_X5 hown hK hP 0 rfl rfl 8 (by decide) w_0 (fun _ h9 => h9) rfl dX5_tried_42 ?_
          refine lv_iload_n hx hb dX5_tried_45 rfl (lv_at hl 1 rfl) ?_
          refine lv_iload_n hx hb dX5_tried_46 rfl (lv_at hl 2 rfl) ?_
          refine zv_callWV (As := [.int (zI sz), .int (zI cm)]) (rest := []) (ws2 := fun u => [(w0, .inr (4, [.ref x0, .ref h0, .ref g0, .ref p0, .ref q0, .ref r0, .int (zI fk), .int (zI sk), .ref t0, .ref b1, .ref b2, .long tr])), (h0, .inr (0, [.int (zI n), .ref h1, .ref h2, .ref h3, .ref h4])), (h1, .inl (cI, 9, .inl (zA so))), (h2, .inl (cI, 9, .inl (zA le))), (h3, .inl (cI, 9, .inl (zA ri))), (h4, .inl (cI, 9, .inl (zA ti))), (t0, .inr (3, [.int (zI (tn + 1)), .ref t1, .ref t2])), (t1, .inl (cI, 9, .inl (zA (zu ts tn sz)))), (t2, .inl (cI, 9, .inl (zA (zu tc tn cm))))]) ⟨hx, hb, hml, hown, hts⟩ (c_X4_append l dC dI cI cB cZ t0 t1 t2 tn ts tc sz cm (by omega)) (cwV 2 hts gX5_tried_X4_append rfl rfl rfl (by decide +kernel) ⟨by rw [← hRM]; first | decide | (dsimp only; omega), by rw [← hRM]; first | decide | (dsimp only; omega)⟩) hP hD hS hA hK [6, 7, 8] rfl (by decide) [0, 1, 2] rfl zN_bl (zN_go hE) (fun _ => rfl) (fun _ => rfl) (q0 := 0) rfl rfl rfl rfl hl.1 rfl (Nat.le_of_ble_eq_true rfl) dX5_tried_47 ⟨Nat.zero_le _, Nat.zero_le _⟩ (fun u H locs hpo hP hD hS => ?_)
          have hP : va_P (dC, dI) vwCl [(w0, .inr (4, [.ref x0, .ref h0, .ref g0, .ref p0, .ref q0, .ref r0, .int (zI fk), .int (zI sk), .ref t0, .ref b1, .ref b2, .long tr])), (h0, .inr (0, [.int (zI n), .ref h1, .ref h2, .ref h3, .ref h4])), (h1, .inl (cI, 9, .inl (zA so))), (h2, .inl (cI, 9, .inl (zA le))), (h3, .inl (cI, 9, .inl (zA ri))), (h4, .inl (cI, 9, .inl (zA ti))), (t0, .inr (3, [.int (zI (tn + 1)), .ref t1, .ref t2])), (t1, .inl (cI, 9, .inl (zA (zu ts tn sz)))), (t2, .inl (cI, 9, .inl (zA (zu tc tn cm))))] H := hP
          have hD : va_D A [(w0, .inr (4, [.ref x0, .ref h0, .ref g0, .ref p0, .ref q0, .ref r0, .int (zI fk), .int (zI sk), .ref t0, .ref b1, .ref b2, .long tr])), (h0, .inr (0, [.int (zI n), .ref h1, .ref h2, .ref h3, .ref h4])), (h1, .inl (cI, 9, .inl (zA so))), (h2, .inl (cI, 9, .inl (zA le))), (h3, .inl (cI, 9, .inl (zA ri))), (h4, .inl (cI, 9, .inl (zA ti))), (t0, .inr (3, [.int (zI (tn + 1)), .ref t1, .ref t2])), (t1, .inl (cI, 9, .inl (zA (zu ts tn sz)))), (t2, .inl (cI, 9, .inl (zA (zu tc tn cm))))] := hD
          refine W.eq (g2 := F0 m 50 ls []) rfl ?_
          refine lv_aload_n hx hb dX5_tried_50 rfl (lv_at hl 0 rfl) ?_
          refine va_get (D := (dC, dI)) (ci := 4) (v := .ref t0) (C := RX5) (T := TX5) (N := 12) hx hb hts in_X5 hown hK hP 0 rfl rfl 8 (by decide) w_0 (fun _ h9 => h9) rfl dX5_tried_51 ?_
          refine va_getN (D := (dC, dI)) (ci := 3) (v := .int (zI (tn + 1))) (C := RX4) (T := TX4) (N := 3) hx hb hts in_X4 hown hK hP 6 rfl rfl 0 (by decide) n_68 (fun _ h9 => h9) rfl dX5_tried_54 ?_
          rw [← hQQ]
          exact zw_iret hx hb hr hlocks () rfl trivial hP hS dX5_tried_57
        · exfalso; omega
      · exfalso; omega
set_option maxHeartbeats 4000000 in
set_option maxRecDepth 100000 in
theorem c_X5_forget (l : Launch) (dC : Nat → ClassId) (dI : Nat → Nat → Nat) (cI cB cZ : ClassId) (w0 : Nat) (x0 : Nat) (h0 : Nat) (g0 : Nat) (p0 : Nat) (q0 : Nat) (r0 : Nat) (fk : Int) (sk : Int) (t0 : Nat) (b1 : Nat) (b2 : Nat) (tr : Int64) (t1 : Nat) (t2 : Nat) (tn : Int) (ts : Int → Int) (tc : Int → Int)  : MetW (S := Unit) l yX5_forget wsX5_forget ({ frames := 0, cells := 0, slots := 0, locals := 0 }) (dC, dI) vwCl (zT cI cB cZ) zN [(w0, .inr (4, [.ref x0, .ref h0, .ref g0, .ref p0, .ref q0, .ref r0, .int (zI fk), .int (zI sk), .ref t0, .ref b1, .ref b2, .long tr])), (t0, .inr (3, [.int (zI tn), .ref t1, .ref t2])), (t1, .inl (cI, 9, .inl (zA ts))), (t2, .inl (cI, 9, .inl (zA tc)))] [.ref w0] (fun u => some (.int (zI tn))) (fun u => [(w0, .inr (4, [.ref x0, .ref h0, .ref g0, .ref p0, .ref q0, .ref r0, .int (zI fk), .int (zI sk), .ref t0, .ref b1, .ref b2, .long tr])), (t0, .inr (3, [.int (zI 0), .ref t1, .ref t2])), (t1, .inl (cI, 9, .inl (zA ts))), (t2, .inl (cI, 9, .inl (zA tc)))]) (fun u => True) := by
  refine MetW.intro (cc := cX5_forget) (maxL := 2) (ret := (some .int)) (by decide) rfl (Nat.le_of_ble_eq_true rfl) ?_
  intro p e s m args below meth c A hx hb hr hlocks hml hts hown hP hK hD hS hA hE ls hl
  have hown : s.vm.findClass RX5 = some m.cls := hown
  have hl : lv_has ls 2 [(0, .ref w0)] := hl
  generalize hRM : ({ frames := 0, cells := 0, slots := 0, locals := 0 } : Room) = RM
  generalize hQQ : MQ below (QW (S := Unit) (dC, dI) vwCl A (fun u => some (.int (zI tn))) (fun u => [(w0, .inr (4, [.ref x0, .ref h0, .ref g0, .ref p0, .ref q0, .ref r0, .int (zI fk), .int (zI sk), .ref t0, .ref b1, .ref b2, .long tr])), (t0, .inr (3, [.int (zI 0), .ref t1, .ref t2])), (t1, .inl (cI, 9, .inl (zA ts))), (t2, .inl (cI, 9, .inl (zA tc)))]) (fun u => True)) args s 0 0 A = QQ
  have in_X4 : ∀ w ∈ wsX40, w ∈ wsX5_forget := by decide +kernel
  have in_X5 : ∀ w ∈ wsX50, w ∈ wsX5_forget := by decide +kernel
  have w_0 := hts (.fieldLink RX5 42 "WallMarbles" "trials" "LWallMarbles$Trials;") (by decide +kernel)
  have n_68 := va_Nw.use (A := args) rfl (zN_7 hE)
  refine lv_aload_n hx hb dX5_forget_0 rfl (lv_at hl 0 rfl) ?_
  refine va_get (D := (dC, dI)) (ci := 4) (v := .ref t0) (C := RX5) (T := TX5) (N := 12) hx hb hts in_X5 hown hK hP 0 rfl rfl 8 (by decide) w_0 (fun _ h9 => h9) rfl dX5_forget_1 ?_
  refine va_getN (D := (dC, dI)) (ci := 3) (v := .int (zI tn)) (C := RX4) (T := TX4) (N := 3) hx hb hts in_X4 hown hK hP 1 rfl rfl 0 (by decide) n_68 (fun _ h9 => h9) rfl dX5_forget_4 ?_
  refine lv_istore_n (lv' := [(1, .int (zI tn)), (0, .ref w0)]) hx hb dX5_forget_7 rfl hl (by decide) rfl (fun ls hl => ?_)
  refine lv_aload_n hx hb dX5_forget_8 rfl (lv_at hl 1 rfl) ?_
  refine va_get (D := (dC, dI)) (ci := 4) (v := .ref t0) (C := RX5) (T := TX5) (N := 12) hx hb hts in_X5 hown hK hP 0 rfl rfl 8 (by decide) w_0 (fun _ h9 => h9) rfl dX5_forget_9 ?_
  refine zv_iconst hx hb dX5_forget_12 ?_
  refine va_putN (D := (dC, dI)) (ci := 3) (v := .int (zI 0)) (ty := .int) (C := RX4) (T := TX4) (N := 3) hx hb hts in_X4 tyX4 tyX4_ok nmX4 hown hK hP hD hS 1 rfl rfl 0 (by decide) n_68 (fun _ h9 => h9) rfl (by decide +kernel) rfl rfl (Nat.le_of_ble_eq_true rfl) dX5_forget_13 (fun H locs hP hD hS => ?_)
  have hP : va_P (dC, dI) vwCl [(w0, .inr (4, [.ref x0, .ref h0, .ref g0, .ref p0, .ref q0, .ref r0, .int (zI fk), .int (zI sk), .ref t0, .ref b1, .ref b2, .long tr])), (t0, .inr (3, [.int (zI 0), .ref t1, .ref t2])), (t1, .inl (cI, 9, .inl (zA ts))), (t2, .inl (cI, 9, .inl (zA tc)))] H := hP
  have hD : va_D A [(w0, .inr (4, [.ref x0, .ref h0, .ref g0, .ref p0, .ref q0, .ref r0, .int (zI fk), .int (zI sk), .ref t0, .ref b1, .ref b2, .long tr])), (t0, .inr (3, [.int (zI 0), .ref t1, .ref t2])), (t1, .inl (cI, 9, .inl (zA ts))), (t2, .inl (cI, 9, .inl (zA tc)))] := hD
  refine lv_iload_n hx hb dX5_forget_16 rfl (lv_at hl 0 rfl) ?_
  rw [← hQQ]
  exact zw_iret hx hb hr hlocks () rfl trivial hP hS dX5_forget_17
set_option maxHeartbeats 4000000 in
set_option maxRecDepth 100000 in
theorem c_X5_count (l : Launch) (dC : Nat → ClassId) (dI : Nat → Nat → Nat) (cI cB cZ : ClassId) (w0 : Nat) (x0 : Nat) (h0 : Nat) (g0 : Nat) (p0 : Nat) (q0 : Nat) (r0 : Nat) (fk : Int) (sk : Int) (t0 : Nat) (b1 : Nat) (b2 : Nat) (tr : Int64) (h1 : Nat) (h2 : Nat) (h3 : Nat) (h4 : Nat) (n : Int) (so : Int → Int) (le : Int → Int) (ri : Int → Int) (ti : Int → Int) (p1 : Nat) (p2 : Nat) (st : Int → Int) (lo : Int) (li : Int) (kn : Int) (al : Int → Int) (ah : Int → Int) (t1 : Nat) (t2 : Nat) (tn : Int) (ts : Int → Int) (tc : Int → Int) (x1 : Nat) (ln : Int) (pl : Int) (ft : Int) (tk : Int) (tS : Int) (tv : Int) (bys : Int → Int) (w : Int) (hh : hOk n so le ri ti) (hwr : -2147483648 ≤ w ∧ w ≤ 2147483647) : MetR l yX5_count wsX5_count ({ frames := 3, cells := 0, slots := 0, locals := 64 }) (dC, dI) vwCl (zT cI cB cZ) zN [(w0, .inr (4, [.ref x0, .ref h0, .ref g0, .ref p0, .ref q0, .ref r0, .int (zI fk), .int (zI sk), .ref t0, .ref b1, .ref b2, .long tr])), (h0, .inr (0, [.int (zI n), .ref h1, .ref h2, .ref h3, .ref h4])), (h1, .inl (cI, 9, .inl (zA so))), (h2, .inl (cI, 9, .inl (zA le))), (h3, .inl (cI, 9, .inl (zA ri))), (h4, .inl (cI, 9, .inl (zA ti))), (p0, .inr (1, [.int (zI (pk st)), .int (zI lo), .int (zI li), .int (zI kn), .ref p1, .ref p2])), (p1, .inl (cI, 9, .inl (zA al))), (p2, .inl (cI, 20, .inl (zA ah))), (t0, .inr (3, [.int (zI tn), .ref t1, .ref t2])), (t1, .inl (cI, 9, .inl (zA ts))), (t2, .inl (cI, 9, .inl (zA tc))), (x0, .inr (2, [.int (zI ln), .ref x1, .int (zI pl), .int (zI ft), .int (zI tk), .int (zI tS), .int (zI tv)])), (x1, .inl (cI, 200, .inl (zA bys)))] [.ref w0, .int (zI w)] (zI (q_count n so tn kn ln w)) := by
  refine MetR.intro (cc := cX5_count) (maxL := 2) (ret := (some .int)) (by decide) rfl (Nat.le_of_ble_eq_true rfl) ?_
  intro p e s m args below meth c hx hb hr hlocks hml hts hown hP hK hE ls hl
  have hown : s.vm.findClass RX5 = some m.cls := hown
  have hl : lv_has ls 2 [(0, .ref w0), (1, .int (zI w))] := hl
  generalize hRM : ({ frames := 3, cells := 0, slots := 0, locals := 64 } : Room) = RM
  generalize hQQ : MQ below (vp_Si (fun r => r = zI (q_count n so tn kn ln w))) args s 0 0 (fun _ => False) = QQ
  have in_X0 : ∀ w ∈ wsX00, w ∈ wsX5_count := by decide +kernel
  have in_X1 : ∀ w ∈ wsX10, w ∈ wsX5_count := by decide +kernel
  have in_X3 : ∀ w ∈ wsX30, w ∈ wsX5_count := by decide +kernel
  have in_X4 : ∀ w ∈ wsX40, w ∈ wsX5_count := by decide +kernel
  have in_X5 : ∀ w ∈ wsX50, w ∈ wsX5_count := by decide +kernel
  have w_0 := hts (.fieldLink RX5 19 "WallMarbles" "built" "LWallMarbles$House;") (by decide +kernel)
  have w_1 := hts (.fieldLink RX5 42 "WallMarbles" "trials" "LWallMarbles$Trials;") (by decide +kernel)
  have w_2 := hts (.fieldLink RX5 29 "WallMarbles" "present" "LWallMarbles$Present;") (by decide +kernel)
  have w_3 := hts (.fieldLink RX5 10 "WallMarbles" "text" "LWallMarbles$Text;") (by decide +kernel)
  have n_78 := va_Nw.use (A := args) rfl (zN_2 hE)
  have n_68 := va_Nw.use (A := args) rfl (zN_7 hE)
  have n_129 := va_Nw.use (A := args) rfl (zN_6 hE)
  have n_53 := va_Nw.use (A := args) rfl (zN_0 hE)
  have hn := hh.1
  refine lv_iload_n hx hb dX5_count_0 rfl (lv_at hl 1 rfl) ?_
  rcases (show w = 0 ∨ w = 1 ∨ w = 2 ∨ w = 3 ∨ w = 4 ∨ (w < 0 ∨ 4 < w) by omega) with c_1 | c_1 | c_1 | c_1 | c_1 | c_1
  · refine zv_tableIn (k := 0) (tgt := 36) hx hb (by omega) c_1 (by omega) dX5_count_1 rfl (by decide) ?_
    refine lv_aload_n hx hb dX5_count_36 rfl (lv_at hl 0 rfl) ?_
    refine va_get (D := (dC, dI)) (ci := 4) (v := .ref h0) (C := RX5) (T := TX5) (N := 12) hx hb hts in_X5 hown hK hP 0 rfl rfl 1 (by decide) w_0 (fun _ h9 => h9) rfl dX5_count_37 ?_
    refine va_getN (D := (dC, dI)) (ci := 0) (v := .int (zI n)) (C := RX0) (T := TX0) (N := 5) hx hb hts in_X0 hown hK hP 1 rfl rfl 0 (by decide) n_78 (fun _ h9 => h9) rfl dX5_count_40 ?_
    rw [← hQQ]
    exact zr_iret hx hb hr hlocks (congrArg zI (show n = q_count n so tn kn ln w from by unfold q_count; (repeat' split) <;> first | rfl | omega)) dX5_count_43
  · refine zv_tableIn (k := 1) (tgt := 44) hx hb (by omega) c_1 (by omega) dX5_count_1 rfl (by decide) ?_
    refine lv_aload_n hx hb dX5_count_44 rfl (lv_at hl 0 rfl) ?_
    refine va_get (D := (dC, dI)) (ci := 4) (v := .ref h0) (C := RX5) (T := TX5) (N := 12) hx hb hts in_X5 hown hK hP 0 rfl rfl 1 (by decide) w_0 (fun _ h9 => h9) rfl dX5_count_45 ?_
    refine zv_callRV (As := []) (rest := []) ⟨hx, hb, hml, hown, hts⟩ (c_X0_landings l dC dI cI cB cZ h0 h1 h2 h3 h4 n so le ri ti (by exact hh)) (cwV 0 hts gX5_count_X0_landings rfl rfl rfl (by decide +kernel) ⟨by rw [← hRM]; first | decide | (dsimp only; omega), by rw [← hRM]; first | decide | (dsimp only; omega)⟩) hP hK [1, 2, 3, 4, 5] rfl [0, 1, 2] rfl zN_bl (zN_go hE) (q0 := 0) rfl rfl rfl rfl hl.1 rfl (Nat.le_of_ble_eq_true rfl) dX5_count_48 ⟨Nat.zero_le _, Nat.zero_le _⟩ ?_
    rw [← hQQ]
    exact zr_iret hx hb hr hlocks (congrArg zI (show sF (gL so) n.toNat = q_count n so tn kn ln w from by unfold q_count; (repeat' split) <;> first | rfl | omega)) dX5_count_51
  · refine zv_tableIn (k := 2) (tgt := 52) hx hb (by omega) c_1 (by omega) dX5_count_1 rfl (by decide) ?_
    refine lv_aload_n hx hb dX5_count_52 rfl (lv_at hl 0 rfl) ?_
    refine va_get (D := (dC, dI)) (ci := 4) (v := .ref t0) (C := RX5) (T := TX5) (N := 12) hx hb hts in_X5 hown hK hP 0 rfl rfl 8 (by decide) w_1 (fun _ h9 => h9) rfl dX5_count_53 ?_
    refine va_getN (D := (dC, dI)) (ci := 3) (v := .int (zI tn)) (C := RX4) (T := TX4) (N := 3) hx hb hts in_X4 hown hK hP 9 rfl rfl 0 (by decide) n_68 (fun _ h9 => h9) rfl dX5_count_56 ?_
    rw [← hQQ]
    exact zr_iret hx hb hr hlocks (congrArg zI (show tn = q_count n so tn kn ln w from by unfold q_count; (repeat' split) <;> first | rfl | omega)) dX5_count_59
  · refine zv_tableIn (k := 3) (tgt := 60) hx hb (by omega) c_1 (by omega) dX5_count_1 rfl (by decide) ?_
    refine lv_aload_n hx hb dX5_count_60 rfl (lv_at hl 0 rfl) ?_
    refine va_get (D := (dC, dI)) (ci := 4) (v := .ref p0) (C := RX5) (T := TX5) (N := 12) hx hb hts in_X5 hown hK hP 0 rfl rfl 3 (by decide) w_2 (fun _ h9 => h9) rfl dX5_count_61 ?_
    refine va_getN (D := (dC, dI)) (ci := 1) (v := .int (zI kn)) (C := RX1) (T := TX1) (N := 6) hx hb hts in_X1 hown hK hP 6 rfl rfl 3 (by decide) n_129 (fun _ h9 => h9) rfl dX5_count_64 ?_
    rw [← hQQ]
    exact zr_iret hx hb hr hlocks (congrArg zI (show kn = q_count n so tn kn ln w from by unfold q_count; (repeat' split) <;> first | rfl | omega)) dX5_count_67
  · refine zv_tableIn (k := 4) (tgt := 68) hx hb (by omega) c_1 (by omega) dX5_count_1 rfl (by decide) ?_
    refine lv_aload_n hx hb dX5_count_68 rfl (lv_at hl 0 rfl) ?_
    refine va_get (D := (dC, dI)) (ci := 4) (v := .ref x0) (C := RX5) (T := TX5) (N := 12) hx hb hts in_X5 hown hK hP 0 rfl rfl 0 (by decide) w_3 (fun _ h9 => h9) rfl dX5_count_69 ?_
    refine va_getN (D := (dC, dI)) (ci := 2) (v := .int (zI ln)) (C := RX3) (T := TX3) (N := 7) hx hb hts in_X3 hown hK hP 12 rfl rfl 0 (by decide) n_53 (fun _ h9 => h9) rfl dX5_count_72 ?_
    rw [← hQQ]
    exact zr_iret hx hb hr hlocks (congrArg zI (show ln = q_count n so tn kn ln w from by unfold q_count; (repeat' split) <;> first | rfl | omega)) dX5_count_75
  · refine zv_tableOut (tgt := 76) hx hb (by omega) c_1 dX5_count_1 (by decide) ?_
    refine zv_iconst hx hb dX5_count_76 ?_
    rw [← hQQ]
    exact zr_iret hx hb hr hlocks (congrArg zI (show (-1) = q_count n so tn kn ln w from by unfold q_count; (repeat' split) <;> first | rfl | omega)) dX5_count_77
set_option maxHeartbeats 4000000 in
set_option maxRecDepth 100000 in
theorem c_X5_trace (l : Launch) (dC : Nat → ClassId) (dI : Nat → Nat → Nat) (cI cB cZ : ClassId) (w0 : Nat) (x0 : Nat) (h0 : Nat) (g0 : Nat) (p0 : Nat) (q0 : Nat) (r0 : Nat) (fk : Int) (sk : Int) (t0 : Nat) (b1 : Nat) (b2 : Nat) (tr : Int64)  : MetW (S := Unit) l yX5_trace wsX5_trace ({ frames := 0, cells := 0, slots := 0, locals := 0 }) (dC, dI) vwCl (zT cI cB cZ) zN [(w0, .inr (4, [.ref x0, .ref h0, .ref g0, .ref p0, .ref q0, .ref r0, .int (zI fk), .int (zI sk), .ref t0, .ref b1, .ref b2, .long tr]))] [.ref w0] (fun u => some (.long tr)) (fun u => [(w0, .inr (4, [.ref x0, .ref h0, .ref g0, .ref p0, .ref q0, .ref r0, .int (zI fk), .int (zI sk), .ref t0, .ref b1, .ref b2, .long tr]))]) (fun u => True) := by
  refine MetW.intro (cc := cX5_trace) (maxL := 1) (ret := (some .long)) (by decide) rfl (Nat.le_of_ble_eq_true rfl) ?_
  intro p e s m args below meth c A hx hb hr hlocks hml hts hown hP hK hD hS hA hE ls hl
  have hown : s.vm.findClass RX5 = some m.cls := hown
  have hl : lv_has ls 1 [(0, .ref w0)] := hl
  generalize hRM : ({ frames := 0, cells := 0, slots := 0, locals := 0 } : Room) = RM
  generalize hQQ : MQ below (QW (S := Unit) (dC, dI) vwCl A (fun u => some (.long tr)) (fun u => [(w0, .inr (4, [.ref x0, .ref h0, .ref g0, .ref p0, .ref q0, .ref r0, .int (zI fk), .int (zI sk), .ref t0, .ref b1, .ref b2, .long tr]))]) (fun u => True)) args s 0 0 A = QQ
  have in_X5 : ∀ w ∈ wsX50, w ∈ wsX5_trace := by decide +kernel
  have w_0 := hts (.fieldLink RX5 209 "WallMarbles" "traced" "J") (by decide +kernel)
  refine lv_aload_n hx hb dX5_trace_0 rfl (lv_at hl 0 rfl) ?_
  refine va_get (D := (dC, dI)) (ci := 4) (v := .long tr) (C := RX5) (T := TX5) (N := 12) hx hb hts in_X5 hown hK hP 0 rfl rfl 11 (by decide) w_0 (fun _ h9 => h9) rfl dX5_trace_1 ?_
  rw [← hQQ]
  exact zw_lret hx hb hr hlocks () rfl trivial hP hS dX5_trace_4
set_option maxHeartbeats 4000000 in
set_option maxRecDepth 100000 in
theorem c_X5_clear (l : Launch) (dC : Nat → ClassId) (dI : Nat → Nat → Nat) (cI cB cZ : ClassId) (w0 : Nat) (x0 : Nat) (h0 : Nat) (g0 : Nat) (p0 : Nat) (q0 : Nat) (r0 : Nat) (fk : Int) (sk : Int) (t0 : Nat) (b1 : Nat) (b2 : Nat) (tr : Int64) (x1 : Nat) (ln : Int) (pl : Int) (ft : Int) (tk : Int) (tS : Int) (tv : Int) (bys : Int → Int)  : MetW (S := Unit) l yX5_clear wsX5_clear ({ frames := 0, cells := 0, slots := 0, locals := 0 }) (dC, dI) vwCl (zT cI cB cZ) zN [(w0, .inr (4, [.ref x0, .ref h0, .ref g0, .ref p0, .ref q0, .ref r0, .int (zI fk), .int (zI sk), .ref t0, .ref b1, .ref b2, .long tr])), (x0, .inr (2, [.int (zI ln), .ref x1, .int (zI pl), .int (zI ft), .int (zI tk), .int (zI tS), .int (zI tv)])), (x1, .inl (cI, 200, .inl (zA bys)))] [.ref w0] (fun u => some (.int (zI ln))) (fun u => [(w0, .inr (4, [.ref x0, .ref h0, .ref g0, .ref p0, .ref q0, .ref r0, .int (zI fk), .int (zI sk), .ref t0, .ref b1, .ref b2, .long tr])), (x0, .inr (2, [.int (zI 0), .ref x1, .int (zI pl), .int (zI ft), .int (zI tk), .int (zI tS), .int (zI tv)])), (x1, .inl (cI, 200, .inl (zA bys)))]) (fun u => True) := by
  refine MetW.intro (cc := cX5_clear) (maxL := 2) (ret := (some .int)) (by decide) rfl (Nat.le_of_ble_eq_true rfl) ?_
  intro p e s m args below meth c A hx hb hr hlocks hml hts hown hP hK hD hS hA hE ls hl
  have hown : s.vm.findClass RX5 = some m.cls := hown
  have hl : lv_has ls 2 [(0, .ref w0)] := hl
  generalize hRM : ({ frames := 0, cells := 0, slots := 0, locals := 0 } : Room) = RM
  generalize hQQ : MQ below (QW (S := Unit) (dC, dI) vwCl A (fun u => some (.int (zI ln))) (fun u => [(w0, .inr (4, [.ref x0, .ref h0, .ref g0, .ref p0, .ref q0, .ref r0, .int (zI fk), .int (zI sk), .ref t0, .ref b1, .ref b2, .long tr])), (x0, .inr (2, [.int (zI 0), .ref x1, .int (zI pl), .int (zI ft), .int (zI tk), .int (zI tS), .int (zI tv)])), (x1, .inl (cI, 200, .inl (zA bys)))]) (fun u => True)) args s 0 0 A = QQ
  have in_X3 : ∀ w ∈ wsX30, w ∈ wsX5_clear := by decide +kernel
  have in_X5 : ∀ w ∈ wsX50, w ∈ wsX5_clear := by decide +kernel
  have w_0 := hts (.fieldLink RX5 10 "WallMarbles" "text" "LWallMarbles$Text;") (by decide +kernel)
  have n_53 := va_Nw.use (A := args) rfl (zN_0 hE)
  refine lv_aload_n hx hb dX5_clear_0 rfl (lv_at hl 0 rfl) ?_
  refine va_get (D := (dC, dI)) (ci := 4) (v := .ref x0) (C := RX5) (T := TX5) (N := 12) hx hb hts in_X5 hown hK hP 0 rfl rfl 0 (by decide) w_0 (fun _ h9 => h9) rfl dX5_clear_1 ?_
  refine va_getN (D := (dC, dI)) (ci := 2) (v := .int (zI ln)) (C := RX3) (T := TX3) (N := 7) hx hb hts in_X3 hown hK hP 1 rfl rfl 0 (by decide) n_53 (fun _ h9 => h9) rfl dX5_clear_4 ?_
  refine lv_istore_n (lv' := [(1, .int (zI ln)), (0, .ref w0)]) hx hb dX5_clear_7 rfl hl (by decide) rfl (fun ls hl => ?_)
  refine lv_aload_n hx hb dX5_clear_8 rfl (lv_at hl 1 rfl) ?_
  refine va_get (D := (dC, dI)) (ci := 4) (v := .ref x0) (C := RX5) (T := TX5) (N := 12) hx hb hts in_X5 hown hK hP 0 rfl rfl 0 (by decide) w_0 (fun _ h9 => h9) rfl dX5_clear_9 ?_
  refine zv_iconst hx hb dX5_clear_12 ?_
  refine va_putN (D := (dC, dI)) (ci := 2) (v := .int (zI 0)) (ty := .int) (C := RX3) (T := TX3) (N := 7) hx hb hts in_X3 tyX3 tyX3_ok nmX3 hown hK hP hD hS 1 rfl rfl 0 (by decide) n_53 (fun _ h9 => h9) rfl (by decide +kernel) rfl rfl (Nat.le_of_ble_eq_true rfl) dX5_clear_13 (fun H locs hP hD hS => ?_)
  have hP : va_P (dC, dI) vwCl [(w0, .inr (4, [.ref x0, .ref h0, .ref g0, .ref p0, .ref q0, .ref r0, .int (zI fk), .int (zI sk), .ref t0, .ref b1, .ref b2, .long tr])), (x0, .inr (2, [.int (zI 0), .ref x1, .int (zI pl), .int (zI ft), .int (zI tk), .int (zI tS), .int (zI tv)])), (x1, .inl (cI, 200, .inl (zA bys)))] H := hP
  have hD : va_D A [(w0, .inr (4, [.ref x0, .ref h0, .ref g0, .ref p0, .ref q0, .ref r0, .int (zI fk), .int (zI sk), .ref t0, .ref b1, .ref b2, .long tr])), (x0, .inr (2, [.int (zI 0), .ref x1, .int (zI pl), .int (zI ft), .int (zI tk), .int (zI tS), .int (zI tv)])), (x1, .inl (cI, 200, .inl (zA bys)))] := hD
  refine lv_iload_n hx hb dX5_clear_16 rfl (lv_at hl 0 rfl) ?_
  rw [← hQQ]
  exact zw_iret hx hb hr hlocks () rfl trivial hP hS dX5_clear_17
set_option maxHeartbeats 4000000 in
set_option maxRecDepth 100000 in
theorem c_X5_called (l : Launch) (dC : Nat → ClassId) (dI : Nat → Nat → Nat) (cI cB cZ : ClassId) (w0 : Nat) (x0 : Nat) (h0 : Nat) (g0 : Nat) (p0 : Nat) (q0 : Nat) (r0 : Nat) (fk : Int) (sk : Int) (t0 : Nat) (b1 : Nat) (b2 : Nat) (tr : Int64) (h1 : Nat) (h2 : Nat) (h3 : Nat) (h4 : Nat) (n : Int) (so : Int → Int) (le : Int → Int) (ri : Int → Int) (ti : Int → Int) (p1 : Nat) (p2 : Nat) (st : Int → Int) (lo : Int) (li : Int) (kn : Int) (al : Int → Int) (ah : Int → Int) (w : Int) (hh : hOk n so le ri ti) (hs : sOk n so ti st) (hlo : -9 ≤ lo ∧ lo ≤ 8) (hwr : -2147483648 ≤ w ∧ w ≤ 2147483647) : MetR l yX5_called wsX5_called ({ frames := 13, cells := 0, slots := 0, locals := 325 }) (dC, dI) vwCl (zT cI cB cZ) zN [(w0, .inr (4, [.ref x0, .ref h0, .ref g0, .ref p0, .ref q0, .ref r0, .int (zI fk), .int (zI sk), .ref t0, .ref b1, .ref b2, .long tr])), (h0, .inr (0, [.int (zI n), .ref h1, .ref h2, .ref h3, .ref h4])), (h1, .inl (cI, 9, .inl (zA so))), (h2, .inl (cI, 9, .inl (zA le))), (h3, .inl (cI, 9, .inl (zA ri))), (h4, .inl (cI, 9, .inl (zA ti))), (p0, .inr (1, [.int (zI (pk st)), .int (zI lo), .int (zI li), .int (zI kn), .ref p1, .ref p2])), (p1, .inl (cI, 9, .inl (zA al))), (p2, .inl (cI, 20, .inl (zA ah)))] [.ref w0, .int (zI w)] (zI (q_called so le ri ti lo n st w)) := by
  refine MetR.intro (cc := cX5_called) (maxL := 2) (ret := (some .int)) (by decide) rfl (Nat.le_of_ble_eq_true rfl) ?_
  intro p e s m args below meth c hx hb hr hlocks hml hts hown hP hK hE ls hl
  have hown : s.vm.findClass RX5 = some m.cls := hown
  have hl : lv_has ls 2 [(0, .ref w0), (1, .int (zI w))] := hl
  generalize hRM : ({ frames := 13, cells := 0, slots := 0, locals := 325 } : Room) = RM
  generalize hQQ : MQ below (vp_Si (fun r => r = zI (q_called so le ri ti lo n st w))) args s 0 0 (fun _ => False) = QQ
  have in_X0 : ∀ w ∈ wsX00, w ∈ wsX5_called := by decide +kernel
  have in_X5 : ∀ w ∈ wsX50, w ∈ wsX5_called := by decide +kernel
  have w_0 := hts (.fieldLink RX5 19 "WallMarbles" "built" "LWallMarbles$House;") (by decide +kernel)
  have n_78 := va_Nw.use (A := args) rfl (zN_2 hE)
  have hn := hh.1
  refine lv_iload_n hx hb dX5_called_0 rfl (lv_at hl 1 rfl) ?_
  refine zv_if_lt (tgt := 10) hx hb (by omega) dX5_called_1 (by decide) (fun c_1 => ?_) (fun c_1 => ?_)
  · refine zv_iconst hx hb dX5_called_10 ?_
    rw [← hQQ]
    exact zr_iret hx hb hr hlocks (congrArg zI (show (-1) = q_called so le ri ti lo n st w from by unfold q_called; (repeat' split) <;> first | rfl | omega)) dX5_called_11
  · refine lv_iload_n hx hb dX5_called_4 rfl (lv_at hl 1 rfl) ?_
    refine zv_bipush hx hb dX5_called_5 (by decide +kernel) ?_
    refine zv_icmp_le (tgt := 12) hx hb (by omega) (by omega) dX5_called_7 (by decide) (fun c_7 => ?_) (fun c_7 => ?_)
    · refine lv_aload_n hx hb dX5_called_12 rfl (lv_at hl 0 rfl) ?_
      refine va_get (D := (dC, dI)) (ci := 4) (v := .ref h0) (C := RX5) (T := TX5) (N := 12) hx hb hts in_X5 hown hK hP 0 rfl rfl 1 (by decide) w_0 (fun _ h9 => h9) rfl dX5_called_13 ?_
      refine va_getN (D := (dC, dI)) (ci := 0) (v := .int (zI n)) (C := RX0) (T := TX0) (N := 5) hx hb hts in_X0 hown hK hP 1 rfl rfl 0 (by decide) n_78 (fun _ h9 => h9) rfl dX5_called_16 ?_
      refine zv_if_ne (tgt := 25) hx hb (by omega) dX5_called_19 (by decide) (fun c_19 => ?_) (fun c_19 => ?_)
      · refine lv_aload_n hx hb dX5_called_25 rfl (lv_at hl 0 rfl) ?_
        refine lv_iload_n hx hb dX5_called_26 rfl (lv_at hl 1 rfl) ?_
        refine zv_iconst hx hb dX5_called_27 ?_
        rw [show (0 : Int) = pk (fun _ => 0) from rfl]
        refine zv_callRV (As := [.int (zI w), .int (zI (pk (fun _ => 0)))]) (rest := []) ⟨hx, hb, hml, hown, hts⟩ (c_X5_rowsToPresent l dC dI cI cB cZ w0 x0 h0 g0 p0 q0 r0 fk sk t0 b1 b2 tr h1 h2 h3 h4 n so le ri ti p1 p2 st lo li kn w (fun _ => 0) (by exact hh) (by omega) (by omega) (by exact sOk_s7 hh hs) (by omega) (by exact sOk_0 hh)) (cwV 2 hts gX5_called_X5_rowsToPresent rfl rfl rfl (by decide +kernel) ⟨by rw [← hRM]; first | decide | (dsimp only; omega), by rw [← hRM]; first | decide | (dsimp only; omega)⟩) hP hK [0, 1, 2, 3, 4, 5, 6] rfl [0, 1, 2] rfl zN_bl (zN_go hE) (q0 := 0) rfl rfl rfl rfl hl.1 rfl (Nat.le_of_ble_eq_true rfl) dX5_called_28 ⟨Nat.zero_le _, Nat.zero_le _⟩ ?_
        rw [← hQQ]
        exact zr_iret hx hb hr hlocks (congrArg zI (show coS so le ri ti lo n st w.toNat (fun _ => 0) = q_called so le ri ti lo n st w from by unfold q_called; (repeat' split) <;> first | rfl | omega)) dX5_called_31
      · refine zv_bipush hx hb dX5_called_22 (by decide +kernel) ?_
        rw [← hQQ]
        exact zr_iret hx hb hr hlocks (congrArg zI (show (-2) = q_called so le ri ti lo n st w from by unfold q_called; (repeat' split) <;> first | rfl | omega)) dX5_called_24
    · refine zv_iconst hx hb dX5_called_10 ?_
      rw [← hQQ]
      exact zr_iret hx hb hr hlocks (congrArg zI (show (-1) = q_called so le ri ti lo n st w from by unfold q_called; (repeat' split) <;> first | rfl | omega)) dX5_called_11
set_option maxHeartbeats 4000000 in
set_option maxRecDepth 100000 in
theorem c_X5_keepN (l : Launch) (dC : Nat → ClassId) (dI : Nat → Nat → Nat) (cI cB cZ : ClassId) (w0 : Nat) (x0 : Nat) (h0 : Nat) (g0 : Nat) (p0 : Nat) (q0 : Nat) (r0 : Nat) (fk : Int) (sk : Int) (t0 : Nat) (b1 : Nat) (b2 : Nat) (tr : Int64) (p1 : Nat) (p2 : Nat) (sg : Int) (lo : Int) (li : Int) (kn : Int) (al : Int → Int) (ah : Int → Int) (q1 : Nat) (q2 : Nat) (sgq : Int) (loq : Int) (liq : Int) (knq : Int) (alq : Int → Int) (ahq : Int → Int) (r1 : Nat) (r2 : Nat) (sgr : Int) (lor : Int) (lir : Int) (knr : Int) (alr : Int → Int) (ahr : Int → Int) (im : Int) (him : -2147483648 ≤ im ∧ im ≤ 2147483647) (hno : ¬ (im = 0 ∨ im = 1)) : MetR l yX5_keep wsX5_keep ({ frames := 0, cells := 0, slots := 0, locals := 0 }) (dC, dI) vwCl (zT cI cB cZ) zN [(w0, .inr (4, [.ref x0, .ref h0, .ref g0, .ref p0, .ref q0, .ref r0, .int (zI fk), .int (zI sk), .ref t0, .ref b1, .ref b2, .long tr])), (p0, .inr (1, [.int (zI sg), .int (zI lo), .int (zI li), .int (zI kn), .ref p1, .ref p2])), (p1, .inl (cI, 9, .inl (zA al))), (p2, .inl (cI, 20, .inl (zA ah))), (q0, .inr (1, [.int (zI sgq), .int (zI loq), .int (zI liq), .int (zI knq), .ref q1, .ref q2])), (q1, .inl (cI, 9, .inl (zA alq))), (q2, .inl (cI, 20, .inl (zA ahq))), (r0, .inr (1, [.int (zI sgr), .int (zI lor), .int (zI lir), .int (zI knr), .ref r1, .ref r2])), (r1, .inl (cI, 9, .inl (zA alr))), (r2, .inl (cI, 20, .inl (zA ahr)))] [.ref w0, .int (zI im)] (zI (-1)) := by
  refine MetR.intro (cc := cX5_keep) (maxL := 2) (ret := (some .int)) (by decide) rfl (Nat.le_of_ble_eq_true rfl) ?_
  intro p e s m args below meth c hx hb hr hlocks hml hts hown hP hK hE ls hl
  have hown : s.vm.findClass RX5 = some m.cls := hown
  have hl : lv_has ls 2 [(0, .ref w0), (1, .int (zI im))] := hl
  generalize hRM : ({ frames := 0, cells := 0, slots := 0, locals := 0 } : Room) = RM
  generalize hQQ : MQ below (vp_Si (fun r => r = zI (-1))) args s 0 0 (fun _ => False) = QQ
  refine lv_iload_n hx hb dX5_keep_0 rfl (lv_at hl 1 rfl) ?_
  refine zv_if_eq (tgt := 11) hx hb (by omega) dX5_keep_1 (by decide) (fun c_1 => ?_) (fun c_1 => ?_)
  · exfalso; omega
  · refine lv_iload_n hx hb dX5_keep_4 rfl (lv_at hl 1 rfl) ?_
    refine zv_iconst hx hb dX5_keep_5 ?_
    refine zv_icmp_eq (tgt := 11) hx hb (by omega) (by omega) dX5_keep_6 (by decide) (fun c_6 => ?_) (fun c_6 => ?_)
    · exfalso; omega
    · refine zv_iconst hx hb dX5_keep_9 ?_
      rw [← hQQ]
      exact zr_iret hx hb hr hlocks (congrArg zI (show (-1) = -1 from by first | rfl | omega | exact (bZ_t (by omega)).symm | exact (bZ_f (by omega)).symm)) dX5_keep_10
set_option maxHeartbeats 4000000 in
set_option maxRecDepth 100000 in
theorem c_X5_keep0 (l : Launch) (dC : Nat → ClassId) (dI : Nat → Nat → Nat) (cI cB cZ : ClassId) (w0 : Nat) (x0 : Nat) (h0 : Nat) (g0 : Nat) (p0 : Nat) (q0 : Nat) (r0 : Nat) (fk : Int) (sk : Int) (t0 : Nat) (b1 : Nat) (b2 : Nat) (tr : Int64) (p1 : Nat) (p2 : Nat) (sg : Int) (lo : Int) (li : Int) (kn : Int) (al : Int → Int) (ah : Int → Int) (q1 : Nat) (q2 : Nat) (sgq : Int) (loq : Int) (liq : Int) (knq : Int) (alq : Int → Int) (ahq : Int → Int) (r1 : Nat) (r2 : Nat) (sgr : Int) (lor : Int) (lir : Int) (knr : Int) (alr : Int → Int) (ahr : Int → Int) (im : Int) (him : -2147483648 ≤ im ∧ im ≤ 2147483647) (hok : im = 0) : MetW (S := Unit) l yX5_keep wsX5_keep ({ frames := 2, cells := 0, slots := 0, locals := 61 }) (dC, dI) vwCl (zT cI cB cZ) zN [(w0, .inr (4, [.ref x0, .ref h0, .ref g0, .ref p0, .ref q0, .ref r0, .int (zI fk), .int (zI sk), .ref t0, .ref b1, .ref b2, .long tr])), (p0, .inr (1, [.int (zI sg), .int (zI lo), .int (zI li), .int (zI kn), .ref p1, .ref p2])), (p1, .inl (cI, 9, .inl (zA al))), (p2, .inl (cI, 20, .inl (zA ah))), (q0, .inr (1, [.int (zI sgq), .int (zI loq), .int (zI liq), .int (zI knq), .ref q1, .ref q2])), (q1, .inl (cI, 9, .inl (zA alq))), (q2, .inl (cI, 20, .inl (zA ahq))), (r0, .inr (1, [.int (zI sgr), .int (zI lor), .int (zI lir), .int (zI knr), .ref r1, .ref r2])), (r1, .inl (cI, 9, .inl (zA alr))), (r2, .inl (cI, 20, .inl (zA ahr)))] [.ref w0, .int (zI im)] (fun u => some (.int (zI li))) (fun u => [(w0, .inr (4, [.ref x0, .ref h0, .ref g0, .ref p0, .ref q0, .ref r0, .int (zI 1), .int (zI sk), .ref t0, .ref b1, .ref b2, .long tr])), (p0, .inr (1, [.int (zI sg), .int (zI lo), .int (zI li), .int (zI kn), .ref p1, .ref p2])), (p1, .inl (cI, 9, .inl (zA al))), (p2, .inl (cI, 20, .inl (zA ah))), (q0, .inr (1, [.int (zI sg), .int (zI lo), .int (zI li), .int (zI kn), .ref q1, .ref q2])), (q1, .inl (cI, 9, .inl (zA (zc al alq 0 0 9)))), (q2, .inl (cI, 20, .inl (zA (zc ah ahq 0 0 20)))), (r0, .inr (1, [.int (zI sgr), .int (zI lor), .int (zI lir), .int (zI knr), .ref r1, .ref r2])), (r1, .inl (cI, 9, .inl (zA alr))), (r2, .inl (cI, 20, .inl (zA ahr)))]) (fun u => True) := by
  refine MetW.intro (cc := cX5_keep) (maxL := 2) (ret := (some .int)) (by decide) rfl (Nat.le_of_ble_eq_true rfl) ?_
  intro p e s m args below meth c A hx hb hr hlocks hml hts hown hP hK hD hS hA hE ls hl
  have hown : s.vm.findClass RX5 = some m.cls := hown
  have hl : lv_has ls 2 [(0, .ref w0), (1, .int (zI im))] := hl
  generalize hRM : ({ frames := 2, cells := 0, slots := 0, locals := 61 } : Room) = RM
  generalize hQQ : MQ below (QW (S := Unit) (dC, dI) vwCl A (fun u => some (.int (zI li))) (fun u => [(w0, .inr (4, [.ref x0, .ref h0, .ref g0, .ref p0, .ref q0, .ref r0, .int (zI 1), .int (zI sk), .ref t0, .ref b1, .ref b2, .long tr])), (p0, .inr (1, [.int (zI sg), .int (zI lo), .int (zI li), .int (zI kn), .ref p1, .ref p2])), (p1, .inl (cI, 9, .inl (zA al))), (p2, .inl (cI, 20, .inl (zA ah))), (q0, .inr (1, [.int (zI sg), .int (zI lo), .int (zI li), .int (zI kn), .ref q1, .ref q2])), (q1, .inl (cI, 9, .inl (zA (zc al alq 0 0 9)))), (q2, .inl (cI, 20, .inl (zA (zc ah ahq 0 0 20)))), (r0, .inr (1, [.int (zI sgr), .int (zI lor), .int (zI lir), .int (zI knr), .ref r1, .ref r2])), (r1, .inl (cI, 9, .inl (zA alr))), (r2, .inl (cI, 20, .inl (zA ahr)))]) (fun u => True)) args s 0 0 A = QQ
  have in_X1 : ∀ w ∈ wsX10, w ∈ wsX5_keep := by decide +kernel
  have in_X5 : ∀ w ∈ wsX50, w ∈ wsX5_keep := by decide +kernel
  have w_0 := hts (.fieldLink RX5 33 "WallMarbles" "firstImage" "LWallMarbles$Present;") (by decide +kernel)
  have w_1 := hts (.fieldLink RX5 29 "WallMarbles" "present" "LWallMarbles$Present;") (by decide +kernel)
  have w_2 := hts (.fieldLink RX5 71 "WallMarbles" "firstKept" "Z") (by decide +kernel)
  have n_113 := va_Nw.use (A := args) rfl (zN_5 hE)
  refine lv_iload_n hx hb dX5_keep_0 rfl (lv_at hl 1 rfl) ?_
  refine zv_if_eq (tgt := 11) hx hb (by omega) dX5_keep_1 (by decide) (fun c_1 => ?_) (fun c_1 => ?_)
  · refine lv_iload_n hx hb dX5_keep_11 rfl (lv_at hl 1 rfl) ?_
    refine zv_if_ne (tgt := 34) hx hb (by omega) dX5_keep_12 (by decide) (fun c_12 => ?_) (fun c_12 => ?_)
    · exfalso; omega
    · refine lv_aload_n hx hb dX5_keep_15 rfl (lv_at hl 0 rfl) ?_
      refine va_get (D := (dC, dI)) (ci := 4) (v := .ref q0) (C := RX5) (T := TX5) (N := 12) hx hb hts in_X5 hown hK hP 0 rfl rfl 4 (by decide) w_0 (fun _ h9 => h9) rfl dX5_keep_16 ?_
      refine lv_aload_n hx hb dX5_keep_19 rfl (lv_at hl 0 rfl) ?_
      refine va_get (D := (dC, dI)) (ci := 4) (v := .ref p0) (C := RX5) (T := TX5) (N := 12) hx hb hts in_X5 hown hK hP 0 rfl rfl 3 (by decide) w_1 (fun _ h9 => h9) rfl dX5_keep_20 ?_
      refine zv_callWV (As := [.ref p0]) (rest := []) (ws2 := fun u => [(w0, .inr (4, [.ref x0, .ref h0, .ref g0, .ref p0, .ref q0, .ref r0, .int (zI fk), .int (zI sk), .ref t0, .ref b1, .ref b2, .long tr])), (p0, .inr (1, [.int (zI sg), .int (zI lo), .int (zI li), .int (zI kn), .ref p1, .ref p2])), (p1, .inl (cI, 9, .inl (zA al))), (p2, .inl (cI, 20, .inl (zA ah))), (q0, .inr (1, [.int (zI sg), .int (zI lo), .int (zI li), .int (zI kn), .ref q1, .ref q2])), (q1, .inl (cI, 9, .inl (zA (zc al alq 0 0 9)))), (q2, .inl (cI, 20, .inl (zA (zc ah ahq 0 0 20)))), (r0, .inr (1, [.int (zI sgr), .int (zI lor), .int (zI lir), .int (zI knr), .ref r1, .ref r2])), (r1, .inl (cI, 9, .inl (zA alr))), (r2, .inl (cI, 20, .inl (zA ahr)))]) ⟨hx, hb, hml, hown, hts⟩ (c_X1_become l dC dI cI cB cZ q0 q1 q2 sgq loq liq knq alq ahq p0 p1 p2 sg lo li kn al ah ) (cwV 1 hts gX5_keep_X1_become rfl rfl rfl (by decide +kernel) ⟨by rw [← hRM]; first | decide | (dsimp only; omega), by rw [← hRM]; first | decide | (dsimp only; omega)⟩) hP hD hS hA hK [4, 5, 6, 1, 2, 3] rfl (by decide) [0, 1, 2] rfl zN_bl (zN_go hE) (fun _ => rfl) (fun _ => rfl) (q0 := 0) rfl rfl rfl rfl hl.1 rfl (Nat.le_of_ble_eq_true rfl) dX5_keep_23 ⟨Nat.zero_le _, Nat.zero_le _⟩ (fun u H locs hpo hP hD hS => ?_)
      have hP : va_P (dC, dI) vwCl [(w0, .inr (4, [.ref x0, .ref h0, .ref g0, .ref p0, .ref q0, .ref r0, .int (zI fk), .int (zI sk), .ref t0, .ref b1, .ref b2, .long tr])), (p0, .inr (1, [.int (zI sg), .int (zI lo), .int (zI li), .int (zI kn), .ref p1, .ref p2])), (p1, .inl (cI, 9, .inl (zA al))), (p2, .inl (cI, 20, .inl (zA ah))), (q0, .inr (1, [.int (zI sg), .int (zI lo), .int (zI li), .int (zI kn), .ref q1, .ref q2])), (q1, .inl (cI, 9, .inl (zA (zc al alq 0 0 9)))), (q2, .inl (cI, 20, .inl (zA (zc ah ahq 0 0 20)))), (r0, .inr (1, [.int (zI sgr), .int (zI lor), .int (zI lir), .int (zI knr), .ref r1, .ref r2])), (r1, .inl (cI, 9, .inl (zA alr))), (r2, .inl (cI, 20, .inl (zA ahr)))] H := hP
      have hD : va_D A [(w0, .inr (4, [.ref x0, .ref h0, .ref g0, .ref p0, .ref q0, .ref r0, .int (zI fk), .int (zI sk), .ref t0, .ref b1, .ref b2, .long tr])), (p0, .inr (1, [.int (zI sg), .int (zI lo), .int (zI li), .int (zI kn), .ref p1, .ref p2])), (p1, .inl (cI, 9, .inl (zA al))), (p2, .inl (cI, 20, .inl (zA ah))), (q0, .inr (1, [.int (zI sg), .int (zI lo), .int (zI li), .int (zI kn), .ref q1, .ref q2])), (q1, .inl (cI, 9, .inl (zA (zc al alq 0 0 9)))), (q2, .inl (cI, 20, .inl (zA (zc ah ahq 0 0 20)))), (r0, .inr (1, [.int (zI sgr), .int (zI lor), .int (zI lir), .int (zI knr), .ref r1, .ref r2])), (r1, .inl (cI, 9, .inl (zA alr))), (r2, .inl (cI, 20, .inl (zA ahr)))] := hD
      refine W.eq (g2 := F0 m 26 ls []) rfl ?_
      refine lv_aload_n hx hb dX5_keep_26 rfl (lv_at hl 0 rfl) ?_
      refine zv_iconst hx hb dX5_keep_27 ?_
      refine va_put (D := (dC, dI)) (ci := 4) (v := .int (zI 1)) (ty := .boolean) (C := RX5) (T := TX5) (N := 12) hx hb hts in_X5 tyX5 tyX5_ok nmX5 hown hK hP hD hS 0 rfl rfl 6 (by decide) w_2 (fun _ h9 => h9) rfl (by decide +kernel) (by rfl) rfl (Nat.le_of_ble_eq_true rfl) dX5_keep_28 (fun H locs hP hD hS => ?_)
      have hP : va_P (dC, dI) vwCl [(w0, .inr (4, [.ref x0, .ref h0, .ref g0, .ref p0, .ref q0, .ref r0, .int (zI 1), .int (zI sk), .ref t0, .ref b1, .ref b2, .long tr])), (p0, .inr (1, [.int (zI sg), .int (zI lo), .int (zI li), .int (zI kn), .ref p1, .ref p2])), (p1, .inl (cI, 9, .inl (zA al))), (p2, .inl (cI, 20, .inl (zA ah))), (q0, .inr (1, [.int (zI sg), .int (zI lo), .int (zI li), .int (zI kn), .ref q1, .ref q2])), (q1, .inl (cI, 9, .inl (zA (zc al alq 0 0 9)))), (q2, .inl (cI, 20, .inl (zA (zc ah ahq 0 0 20)))), (r0, .inr (1, [.int (zI sgr), .int (zI lor), .int (zI lir), .int (zI knr), .ref r1, .ref r2])), (r1, .inl (cI, 9, .inl (zA alr))), (r2, .inl (cI, 20, .inl (zA ahr)))] H := hP
      have hD : va_D A [(w0, .inr (4, [.ref x0, .ref h0, .ref g0, .ref p0, .ref q0, .ref r0, .int (zI 1), .int (zI sk), .ref t0, .ref b1, .ref b2, .long tr])), (p0, .inr (1, [.int (zI sg), .int (zI lo), .int (zI li), .int (zI kn), .ref p1, .ref p2])), (p1, .inl (cI, 9, .inl (zA al))), (p2, .inl (cI, 20, .inl (zA ah))), (q0, .inr (1, [.int (zI sg), .int (zI lo), .int (zI li), .int (zI kn), .ref q1, .ref q2])), (q1, .inl (cI, 9, .inl (zA (zc al alq 0 0 9)))), (q2, .inl (cI, 20, .inl (zA (zc ah ahq 0 0 20)))), (r0, .inr (1, [.int (zI sgr), .int (zI lor), .int (zI lir), .int (zI knr), .ref r1, .ref r2])), (r1, .inl (cI, 9, .inl (zA alr))), (r2, .inl (cI, 20, .inl (zA ahr)))] := hD
      refine lv_goto (tgt := 50) hx hb dX5_keep_31 (by decide) ?_
      refine lv_aload_n hx hb dX5_keep_50 rfl (lv_at hl 0 rfl) ?_
      refine va_get (D := (dC, dI)) (ci := 4) (v := .ref p0) (C := RX5) (T := TX5) (N := 12) hx hb hts in_X5 hown hK hP 0 rfl rfl 3 (by decide) w_1 (fun _ h9 => h9) rfl dX5_keep_51 ?_
      refine va_getN (D := (dC, dI)) (ci := 1) (v := .int (zI li)) (C := RX1) (T := TX1) (N := 6) hx hb hts in_X1 hown hK hP 1 rfl rfl 2 (by decide) n_113 (fun _ h9 => h9) rfl dX5_keep_54 ?_
      rw [← hQQ]
      exact zw_iret hx hb hr hlocks () rfl trivial hP hS dX5_keep_57
  · exfalso; omega
set_option maxHeartbeats 4000000 in
set_option maxRecDepth 100000 in
theorem c_X5_keep1 (l : Launch) (dC : Nat → ClassId) (dI : Nat → Nat → Nat) (cI cB cZ : ClassId) (w0 : Nat) (x0 : Nat) (h0 : Nat) (g0 : Nat) (p0 : Nat) (q0 : Nat) (r0 : Nat) (fk : Int) (sk : Int) (t0 : Nat) (b1 : Nat) (b2 : Nat) (tr : Int64) (p1 : Nat) (p2 : Nat) (sg : Int) (lo : Int) (li : Int) (kn : Int) (al : Int → Int) (ah : Int → Int) (q1 : Nat) (q2 : Nat) (sgq : Int) (loq : Int) (liq : Int) (knq : Int) (alq : Int → Int) (ahq : Int → Int) (r1 : Nat) (r2 : Nat) (sgr : Int) (lor : Int) (lir : Int) (knr : Int) (alr : Int → Int) (ahr : Int → Int) (im : Int) (him : -2147483648 ≤ im ∧ im ≤ 2147483647) (hok : im = 1) : MetW (S := Unit) l yX5_keep wsX5_keep ({ frames := 2, cells := 0, slots := 0, locals := 61 }) (dC, dI) vwCl (zT cI cB cZ) zN [(w0, .inr (4, [.ref x0, .ref h0, .ref g0, .ref p0, .ref q0, .ref r0, .int (zI fk), .int (zI sk), .ref t0, .ref b1, .ref b2, .long tr])), (p0, .inr (1, [.int (zI sg), .int (zI lo), .int (zI li), .int (zI kn), .ref p1, .ref p2])), (p1, .inl (cI, 9, .inl (zA al))), (p2, .inl (cI, 20, .inl (zA ah))), (q0, .inr (1, [.int (zI sgq), .int (zI loq), .int (zI liq), .int (zI knq), .ref q1, .ref q2])), (q1, .inl (cI, 9, .inl (zA alq))), (q2, .inl (cI, 20, .inl (zA ahq))), (r0, .inr (1, [.int (zI sgr), .int (zI lor), .int (zI lir), .int (zI knr), .ref r1, .ref r2])), (r1, .inl (cI, 9, .inl (zA alr))), (r2, .inl (cI, 20, .inl (zA ahr)))] [.ref w0, .int (zI im)] (fun u => some (.int (zI li))) (fun u => [(w0, .inr (4, [.ref x0, .ref h0, .ref g0, .ref p0, .ref q0, .ref r0, .int (zI fk), .int (zI 1), .ref t0, .ref b1, .ref b2, .long tr])), (p0, .inr (1, [.int (zI sg), .int (zI lo), .int (zI li), .int (zI kn), .ref p1, .ref p2])), (p1, .inl (cI, 9, .inl (zA al))), (p2, .inl (cI, 20, .inl (zA ah))), (q0, .inr (1, [.int (zI sgq), .int (zI loq), .int (zI liq), .int (zI knq), .ref q1, .ref q2])), (q1, .inl (cI, 9, .inl (zA alq))), (q2, .inl (cI, 20, .inl (zA ahq))), (r0, .inr (1, [.int (zI sg), .int (zI lo), .int (zI li), .int (zI kn), .ref r1, .ref r2])), (r1, .inl (cI, 9, .inl (zA (zc al alr 0 0 9)))), (r2, .inl (cI, 20, .inl (zA (zc ah ahr 0 0 20))))]) (fun u => True) := by
  refine MetW.intro (cc := cX5_keep) (maxL := 2) (ret := (some .int)) (by decide) rfl (Nat.le_of_ble_eq_true rfl) ?_
  intro p e s m args below meth c A hx hb hr hlocks hml hts hown hP hK hD hS hA hE ls hl
  have hown : s.vm.findClass RX5 = some m.cls := hown
  have hl : lv_has ls 2 [(0, .ref w0), (1, .int (zI im))] := hl
  generalize hRM : ({ frames := 2, cells := 0, slots := 0, locals := 61 } : Room) = RM
  generalize hQQ : MQ below (QW (S := Unit) (dC, dI) vwCl A (fun u => some (.int (zI li))) (fun u => [(w0, .inr (4, [.ref x0, .ref h0, .ref g0, .ref p0, .ref q0, .ref r0, .int (zI fk), .int (zI 1), .ref t0, .ref b1, .ref b2, .long tr])), (p0, .inr (1, [.int (zI sg), .int (zI lo), .int (zI li), .int (zI kn), .ref p1, .ref p2])), (p1, .inl (cI, 9, .inl (zA al))), (p2, .inl (cI, 20, .inl (zA ah))), (q0, .inr (1, [.int (zI sgq), .int (zI loq), .int (zI liq), .int (zI knq), .ref q1, .ref q2])), (q1, .inl (cI, 9, .inl (zA alq))), (q2, .inl (cI, 20, .inl (zA ahq))), (r0, .inr (1, [.int (zI sg), .int (zI lo), .int (zI li), .int (zI kn), .ref r1, .ref r2])), (r1, .inl (cI, 9, .inl (zA (zc al alr 0 0 9)))), (r2, .inl (cI, 20, .inl (zA (zc ah ahr 0 0 20))))]) (fun u => True)) args s 0 0 A = QQ
  have in_X1 : ∀ w ∈ wsX10, w ∈ wsX5_keep := by decide +kernel
  have in_X5 : ∀ w ∈ wsX50, w ∈ wsX5_keep := by decide +kernel
  have w_0 := hts (.fieldLink RX5 36 "WallMarbles" "secondImage" "LWallMarbles$Present;") (by decide +kernel)
  have w_1 := hts (.fieldLink RX5 29 "WallMarbles" "present" "LWallMarbles$Present;") (by decide +kernel)
  have w_2 := hts (.fieldLink RX5 75 "WallMarbles" "secondKept" "Z") (by decide +kernel)
  have n_113 := va_Nw.use (A := args) rfl (zN_5 hE)
  refine lv_iload_n hx hb dX5_keep_0 rfl (lv_at hl 1 rfl) ?_
  refine zv_if_eq (tgt := 11) hx hb (by omega) dX5_keep_1 (by decide) (fun c_1 => ?_) (fun c_1 => ?_)
  · exfalso; omega
  · refine lv_iload_n hx hb dX5_keep_4 rfl (lv_at hl 1 rfl) ?_
    refine zv_iconst hx hb dX5_keep_5 ?_
    refine zv_icmp_eq (tgt := 11) hx hb (by omega) (by omega) dX5_keep_6 (by decide) (fun c_6 => ?_) (fun c_6 => ?_)
    · refine lv_iload_n hx hb dX5_keep_11 rfl (lv_at hl 1 rfl) ?_
      refine zv_if_ne (tgt := 34) hx hb (by omega) dX5_keep_12 (by decide) (fun c_12 => ?_) (fun c_12 => ?_)
      · refine lv_aload_n hx hb dX5_keep_34 rfl (lv_at hl 0 rfl) ?_
        refine va_get (D := (dC, dI)) (ci := 4) (v := .ref r0) (C := RX5) (T := TX5) (N := 12) hx hb hts in_X5 hown hK hP 0 rfl rfl 5 (by decide) w_0 (fun _ h9 => h9) rfl dX5_keep_35 ?_
        refine lv_aload_n hx hb dX5_keep_38 rfl (lv_at hl 0 rfl) ?_
        refine va_get (D := (dC, dI)) (ci := 4) (v := .ref p0) (C := RX5) (T := TX5) (N := 12) hx hb hts in_X5 hown hK hP 0 rfl rfl 3 (by decide) w_1 (fun _ h9 => h9) rfl dX5_keep_39 ?_
        refine zv_callWV (As := [.ref p0]) (rest := []) (ws2 := fun u => [(w0, .inr (4, [.ref x0, .ref h0, .ref g0, .ref p0, .ref q0, .ref r0, .int (zI fk), .int (zI sk), .ref t0, .ref b1, .ref b2, .long tr])), (p0, .inr (1, [.int (zI sg), .int (zI lo), .int (zI li), .int (zI kn), .ref p1, .ref p2])), (p1, .inl (cI, 9, .inl (zA al))), (p2, .inl (cI, 20, .inl (zA ah))), (q0, .inr (1, [.int (zI sgq), .int (zI loq), .int (zI liq), .int (zI knq), .ref q1, .ref q2])), (q1, .inl (cI, 9, .inl (zA alq))), (q2, .inl (cI, 20, .inl (zA ahq))), (r0, .inr (1, [.int (zI sg), .int (zI lo), .int (zI li), .int (zI kn), .ref r1, .ref r2])), (r1, .inl (cI, 9, .inl (zA (zc al alr 0 0 9)))), (r2, .inl (cI, 20, .inl (zA (zc ah ahr 0 0 20))))]) ⟨hx, hb, hml, hown, hts⟩ (c_X1_become l dC dI cI cB cZ r0 r1 r2 sgr lor lir knr alr ahr p0 p1 p2 sg lo li kn al ah ) (cwV 1 hts gX5_keep_X1_become rfl rfl rfl (by decide +kernel) ⟨by rw [← hRM]; first | decide | (dsimp only; omega), by rw [← hRM]; first | decide | (dsimp only; omega)⟩) hP hD hS hA hK [7, 8, 9, 1, 2, 3] rfl (by decide) [0, 1, 2] rfl zN_bl (zN_go hE) (fun _ => rfl) (fun _ => rfl) (q0 := 0) rfl rfl rfl rfl hl.1 rfl (Nat.le_of_ble_eq_true rfl) dX5_keep_42 ⟨Nat.zero_le _, Nat.zero_le _⟩ (fun u H locs hpo hP hD hS => ?_)
        have hP : va_P (dC, dI) vwCl [(w0, .inr (4, [.ref x0, .ref h0, .ref g0, .ref p0, .ref q0, .ref r0, .int (zI fk), .int (zI sk), .ref t0, .ref b1, .ref b2, .long tr])), (p0, .inr (1, [.int (zI sg), .int (zI lo), .int (zI li), .int (zI kn), .ref p1, .ref p2])), (p1, .inl (cI, 9, .inl (zA al))), (p2, .inl (cI, 20, .inl (zA ah))), (q0, .inr (1, [.int (zI sgq), .int (zI loq), .int (zI liq), .int (zI knq), .ref q1, .ref q2])), (q1, .inl (cI, 9, .inl (zA alq))), (q2, .inl (cI, 20, .inl (zA ahq))), (r0, .inr (1, [.int (zI sg), .int (zI lo), .int (zI li), .int (zI kn), .ref r1, .ref r2])), (r1, .inl (cI, 9, .inl (zA (zc al alr 0 0 9)))), (r2, .inl (cI, 20, .inl (zA (zc ah ahr 0 0 20))))] H := hP
        have hD : va_D A [(w0, .inr (4, [.ref x0, .ref h0, .ref g0, .ref p0, .ref q0, .ref r0, .int (zI fk), .int (zI sk), .ref t0, .ref b1, .ref b2, .long tr])), (p0, .inr (1, [.int (zI sg), .int (zI lo), .int (zI li), .int (zI kn), .ref p1, .ref p2])), (p1, .inl (cI, 9, .inl (zA al))), (p2, .inl (cI, 20, .inl (zA ah))), (q0, .inr (1, [.int (zI sgq), .int (zI loq), .int (zI liq), .int (zI knq), .ref q1, .ref q2])), (q1, .inl (cI, 9, .inl (zA alq))), (q2, .inl (cI, 20, .inl (zA ahq))), (r0, .inr (1, [.int (zI sg), .int (zI lo), .int (zI li), .int (zI kn), .ref r1, .ref r2])), (r1, .inl (cI, 9, .inl (zA (zc al alr 0 0 9)))), (r2, .inl (cI, 20, .inl (zA (zc ah ahr 0 0 20))))] := hD
        refine W.eq (g2 := F0 m 45 ls []) rfl ?_
        refine lv_aload_n hx hb dX5_keep_45 rfl (lv_at hl 0 rfl) ?_
        refine zv_iconst hx hb dX5_keep_46 ?_
        refine va_put (D := (dC, dI)) (ci := 4) (v := .int (zI 1)) (ty := .boolean) (C := RX5) (T := TX5) (N := 12) hx hb hts in_X5 tyX5 tyX5_ok nmX5 hown hK hP hD hS 0 rfl rfl 7 (by decide) w_2 (fun _ h9 => h9) rfl (by decide +kernel) (by rfl) rfl (Nat.le_of_ble_eq_true rfl) dX5_keep_47 (fun H locs hP hD hS => ?_)
        have hP : va_P (dC, dI) vwCl [(w0, .inr (4, [.ref x0, .ref h0, .ref g0, .ref p0, .ref q0, .ref r0, .int (zI fk), .int (zI 1), .ref t0, .ref b1, .ref b2, .long tr])), (p0, .inr (1, [.int (zI sg), .int (zI lo), .int (zI li), .int (zI kn), .ref p1, .ref p2])), (p1, .inl (cI, 9, .inl (zA al))), (p2, .inl (cI, 20, .inl (zA ah))), (q0, .inr (1, [.int (zI sgq), .int (zI loq), .int (zI liq), .int (zI knq), .ref q1, .ref q2])), (q1, .inl (cI, 9, .inl (zA alq))), (q2, .inl (cI, 20, .inl (zA ahq))), (r0, .inr (1, [.int (zI sg), .int (zI lo), .int (zI li), .int (zI kn), .ref r1, .ref r2])), (r1, .inl (cI, 9, .inl (zA (zc al alr 0 0 9)))), (r2, .inl (cI, 20, .inl (zA (zc ah ahr 0 0 20))))] H := hP
        have hD : va_D A [(w0, .inr (4, [.ref x0, .ref h0, .ref g0, .ref p0, .ref q0, .ref r0, .int (zI fk), .int (zI 1), .ref t0, .ref b1, .ref b2, .long tr])), (p0, .inr (1, [.int (zI sg), .int (zI lo), .int (zI li), .int (zI kn), .ref p1, .ref p2])), (p1, .inl (cI, 9, .inl (zA al))), (p2, .inl (cI, 20, .inl (zA ah))), (q0, .inr (1, [.int (zI sgq), .int (zI loq), .int (zI liq), .int (zI knq), .ref q1, .ref q2])), (q1, .inl (cI, 9, .inl (zA alq))), (q2, .inl (cI, 20, .inl (zA ahq))), (r0, .inr (1, [.int (zI sg), .int (zI lo), .int (zI li), .int (zI kn), .ref r1, .ref r2])), (r1, .inl (cI, 9, .inl (zA (zc al alr 0 0 9)))), (r2, .inl (cI, 20, .inl (zA (zc ah ahr 0 0 20))))] := hD
        refine lv_aload_n hx hb dX5_keep_50 rfl (lv_at hl 0 rfl) ?_
        refine va_get (D := (dC, dI)) (ci := 4) (v := .ref p0) (C := RX5) (T := TX5) (N := 12) hx hb hts in_X5 hown hK hP 0 rfl rfl 3 (by decide) w_1 (fun _ h9 => h9) rfl dX5_keep_51 ?_
        refine va_getN (D := (dC, dI)) (ci := 1) (v := .int (zI li)) (C := RX1) (T := TX1) (N := 6) hx hb hts in_X1 hown hK hP 1 rfl rfl 2 (by decide) n_113 (fun _ h9 => h9) rfl dX5_keep_54 ?_
        rw [← hQQ]
        exact zw_iret hx hb hr hlocks () rfl trivial hP hS dX5_keep_57
      · exfalso; omega
    · exfalso; omega
set_option maxHeartbeats 4000000 in
set_option maxRecDepth 100000 in
theorem c_X5_backN (l : Launch) (dC : Nat → ClassId) (dI : Nat → Nat → Nat) (cI cB cZ : ClassId) (w0 : Nat) (x0 : Nat) (h0 : Nat) (g0 : Nat) (p0 : Nat) (q0 : Nat) (r0 : Nat) (fk : Int) (sk : Int) (t0 : Nat) (b1 : Nat) (b2 : Nat) (tr : Int64) (p1 : Nat) (p2 : Nat) (sg : Int) (lo : Int) (li : Int) (kn : Int) (al : Int → Int) (ah : Int → Int) (q1 : Nat) (q2 : Nat) (sgq : Int) (loq : Int) (liq : Int) (knq : Int) (alq : Int → Int) (ahq : Int → Int) (r1 : Nat) (r2 : Nat) (sgr : Int) (lor : Int) (lir : Int) (knr : Int) (alr : Int → Int) (ahr : Int → Int) (im : Int) (him : -2147483648 ≤ im ∧ im ≤ 2147483647) (hfk : (fk = 0 ∨ fk = 1) ∧ (sk = 0 ∨ sk = 1)) (hno : ¬ ((im = 0 ∧ fk = 1) ∨ (im = 1 ∧ sk = 1))) : MetR l yX5_back wsX5_back ({ frames := 0, cells := 0, slots := 0, locals := 0 }) (dC, dI) vwCl (zT cI cB cZ) zN [(w0, .inr (4, [.ref x0, .ref h0, .ref g0, .ref p0, .ref q0, .ref r0, .int (zI fk), .int (zI sk), .ref t0, .ref b1, .ref b2, .long tr])), (p0, .inr (1, [.int (zI sg), .int (zI lo), .int (zI li), .int (zI kn), .ref p1, .ref p2])), (p1, .inl (cI, 9, .inl (zA al))), (p2, .inl (cI, 20, .inl (zA ah))), (q0, .inr (1, [.int (zI sgq), .int (zI loq), .int (zI liq), .int (zI knq), .ref q1, .ref q2])), (q1, .inl (cI, 9, .inl (zA alq))), (q2, .inl (cI, 20, .inl (zA ahq))), (r0, .inr (1, [.int (zI sgr), .int (zI lor), .int (zI lir), .int (zI knr), .ref r1, .ref r2])), (r1, .inl (cI, 9, .inl (zA alr))), (r2, .inl (cI, 20, .inl (zA ahr)))] [.ref w0, .int (zI im)] (zI (if im = 0 ∨ im = 1 then -2 else -1)) := by
  refine MetR.intro (cc := cX5_back) (maxL := 2) (ret := (some .int)) (by decide) rfl (Nat.le_of_ble_eq_true rfl) ?_
  intro p e s m args below meth c hx hb hr hlocks hml hts hown hP hK hE ls hl
  have hown : s.vm.findClass RX5 = some m.cls := hown
  have hl : lv_has ls 2 [(0, .ref w0), (1, .int (zI im))] := hl
  generalize hRM : ({ frames := 0, cells := 0, slots := 0, locals := 0 } : Room) = RM
  generalize hQQ : MQ below (vp_Si (fun r => r = zI (if im = 0 ∨ im = 1 then -2 else -1))) args s 0 0 (fun _ => False) = QQ
  have in_X5 : ∀ w ∈ wsX50, w ∈ wsX5_back := by decide +kernel
  have w_0 := hts (.fieldLink RX5 75 "WallMarbles" "secondKept" "Z") (by decide +kernel)
  have w_1 := hts (.fieldLink RX5 71 "WallMarbles" "firstKept" "Z") (by decide +kernel)
  refine lv_iload_n hx hb dX5_back_0 rfl (lv_at hl 1 rfl) ?_
  refine zv_if_eq (tgt := 11) hx hb (by omega) dX5_back_1 (by decide) (fun c_1 => ?_) (fun c_1 => ?_)
  · refine lv_iload_n hx hb dX5_back_11 rfl (lv_at hl 1 rfl) ?_
    refine zv_if_ne (tgt := 25) hx hb (by omega) dX5_back_12 (by decide) (fun c_12 => ?_) (fun c_12 => ?_)
    · refine lv_aload_n hx hb dX5_back_25 rfl (lv_at hl 0 rfl) ?_
      refine va_get (D := (dC, dI)) (ci := 4) (v := .int (zI sk)) (C := RX5) (T := TX5) (N := 12) hx hb hts in_X5 hown hK hP 0 rfl rfl 7 (by decide) w_0 (fun _ h9 => h9) rfl dX5_back_26 ?_
      refine zv_if_ne (tgt := 35) hx hb (by omega) dX5_back_29 (by decide) (fun c_29 => ?_) (fun c_29 => ?_)
      · exfalso; omega
      · refine zv_bipush hx hb dX5_back_32 (by decide +kernel) ?_
        rw [← hQQ]
        exact zr_iret hx hb hr hlocks (congrArg zI (show (-2) = if im = 0 ∨ im = 1 then -2 else -1 from by split <;> first | rfl | omega)) dX5_back_34
    · refine lv_aload_n hx hb dX5_back_15 rfl (lv_at hl 0 rfl) ?_
      refine va_get (D := (dC, dI)) (ci := 4) (v := .int (zI fk)) (C := RX5) (T := TX5) (N := 12) hx hb hts in_X5 hown hK hP 0 rfl rfl 6 (by decide) w_1 (fun _ h9 => h9) rfl dX5_back_16 ?_
      refine zv_if_ne (tgt := 35) hx hb (by omega) dX5_back_19 (by decide) (fun c_19 => ?_) (fun c_19 => ?_)
      · exfalso; omega
      · refine lv_goto (tgt := 32) hx hb dX5_back_22 (by decide) ?_
        refine zv_bipush hx hb dX5_back_32 (by decide +kernel) ?_
        rw [← hQQ]
        exact zr_iret hx hb hr hlocks (congrArg zI (show (-2) = if im = 0 ∨ im = 1 then -2 else -1 from by split <;> first | rfl | omega)) dX5_back_34
  · refine lv_iload_n hx hb dX5_back_4 rfl (lv_at hl 1 rfl) ?_
    refine zv_iconst hx hb dX5_back_5 ?_
    refine zv_icmp_eq (tgt := 11) hx hb (by omega) (by omega) dX5_back_6 (by decide) (fun c_6 => ?_) (fun c_6 => ?_)
    · refine lv_iload_n hx hb dX5_back_11 rfl (lv_at hl 1 rfl) ?_
      refine zv_if_ne (tgt := 25) hx hb (by omega) dX5_back_12 (by decide) (fun c_12 => ?_) (fun c_12 => ?_)
      · refine lv_aload_n hx hb dX5_back_25 rfl (lv_at hl 0 rfl) ?_
        refine va_get (D := (dC, dI)) (ci := 4) (v := .int (zI sk)) (C := RX5) (T := TX5) (N := 12) hx hb hts in_X5 hown hK hP 0 rfl rfl 7 (by decide) w_0 (fun _ h9 => h9) rfl dX5_back_26 ?_
        refine zv_if_ne (tgt := 35) hx hb (by omega) dX5_back_29 (by decide) (fun c_29 => ?_) (fun c_29 => ?_)
        · exfalso; omega
        · refine zv_bipush hx hb dX5_back_32 (by decide +kernel) ?_
          rw [← hQQ]
          exact zr_iret hx hb hr hlocks (congrArg zI (show (-2) = if im = 0 ∨ im = 1 then -2 else -1 from by split <;> first | rfl | omega)) dX5_back_34
      · refine lv_aload_n hx hb dX5_back_15 rfl (lv_at hl 0 rfl) ?_
        refine va_get (D := (dC, dI)) (ci := 4) (v := .int (zI fk)) (C := RX5) (T := TX5) (N := 12) hx hb hts in_X5 hown hK hP 0 rfl rfl 6 (by decide) w_1 (fun _ h9 => h9) rfl dX5_back_16 ?_
        refine zv_if_ne (tgt := 35) hx hb (by omega) dX5_back_19 (by decide) (fun c_19 => ?_) (fun c_19 => ?_)
        · exfalso; omega
        · refine lv_goto (tgt := 32) hx hb dX5_back_22 (by decide) ?_
          refine zv_bipush hx hb dX5_back_32 (by decide +kernel) ?_
          rw [← hQQ]
          exact zr_iret hx hb hr hlocks (congrArg zI (show (-2) = if im = 0 ∨ im = 1 then -2 else -1 from by split <;> first | rfl | omega)) dX5_back_34
    · refine zv_iconst hx hb dX5_back_9 ?_
      rw [← hQQ]
      exact zr_iret hx hb hr hlocks (congrArg zI (show (-1) = if im = 0 ∨ im = 1 then -2 else -1 from by split <;> first | rfl | omega)) dX5_back_10
set_option maxHeartbeats 4000000 in
set_option maxRecDepth 100000 in
theorem c_X5_back0 (l : Launch) (dC : Nat → ClassId) (dI : Nat → Nat → Nat) (cI cB cZ : ClassId) (w0 : Nat) (x0 : Nat) (h0 : Nat) (g0 : Nat) (p0 : Nat) (q0 : Nat) (r0 : Nat) (fk : Int) (sk : Int) (t0 : Nat) (b1 : Nat) (b2 : Nat) (tr : Int64) (p1 : Nat) (p2 : Nat) (sg : Int) (lo : Int) (li : Int) (kn : Int) (al : Int → Int) (ah : Int → Int) (q1 : Nat) (q2 : Nat) (sgq : Int) (loq : Int) (liq : Int) (knq : Int) (alq : Int → Int) (ahq : Int → Int) (r1 : Nat) (r2 : Nat) (sgr : Int) (lor : Int) (lir : Int) (knr : Int) (alr : Int → Int) (ahr : Int → Int) (im : Int) (him : -2147483648 ≤ im ∧ im ≤ 2147483647) (hfk : (fk = 0 ∨ fk = 1) ∧ (sk = 0 ∨ sk = 1)) (hok : im = 0 ∧ fk = 1) : MetW (S := Unit) l yX5_back wsX5_back ({ frames := 2, cells := 0, slots := 0, locals := 61 }) (dC, dI) vwCl (zT cI cB cZ) zN [(w0, .inr (4, [.ref x0, .ref h0, .ref g0, .ref p0, .ref q0, .ref r0, .int (zI fk), .int (zI sk), .ref t0, .ref b1, .ref b2, .long tr])), (p0, .inr (1, [.int (zI sg), .int (zI lo), .int (zI li), .int (zI kn), .ref p1, .ref p2])), (p1, .inl (cI, 9, .inl (zA al))), (p2, .inl (cI, 20, .inl (zA ah))), (q0, .inr (1, [.int (zI sgq), .int (zI loq), .int (zI liq), .int (zI knq), .ref q1, .ref q2])), (q1, .inl (cI, 9, .inl (zA alq))), (q2, .inl (cI, 20, .inl (zA ahq))), (r0, .inr (1, [.int (zI sgr), .int (zI lor), .int (zI lir), .int (zI knr), .ref r1, .ref r2])), (r1, .inl (cI, 9, .inl (zA alr))), (r2, .inl (cI, 20, .inl (zA ahr)))] [.ref w0, .int (zI im)] (fun u => some (.int (zI liq))) (fun u => [(w0, .inr (4, [.ref x0, .ref h0, .ref g0, .ref p0, .ref q0, .ref r0, .int (zI fk), .int (zI sk), .ref t0, .ref b1, .ref b2, .long tr])), (p0, .inr (1, [.int (zI sgq), .int (zI loq), .int (zI liq), .int (zI knq), .ref p1, .ref p2])), (p1, .inl (cI, 9, .inl (zA (zc alq al 0 0 9)))), (p2, .inl (cI, 20, .inl (zA (zc ahq ah 0 0 20)))), (q0, .inr (1, [.int (zI sgq), .int (zI loq), .int (zI liq), .int (zI knq), .ref q1, .ref q2])), (q1, .inl (cI, 9, .inl (zA alq))), (q2, .inl (cI, 20, .inl (zA ahq))), (r0, .inr (1, [.int (zI sgr), .int (zI lor), .int (zI lir), .int (zI knr), .ref r1, .ref r2])), (r1, .inl (cI, 9, .inl (zA alr))), (r2, .inl (cI, 20, .inl (zA ahr)))]) (fun u => True) := by
  refine MetW.intro (cc := cX5_back) (maxL := 2) (ret := (some .int)) (by decide) rfl (Nat.le_of_ble_eq_true rfl) ?_
  intro p e s m args below meth c A hx hb hr hlocks hml hts hown hP hK hD hS hA hE ls hl
  have hown : s.vm.findClass RX5 = some m.cls := hown
  have hl : lv_has ls 2 [(0, .ref w0), (1, .int (zI im))] := hl
  generalize hRM : ({ frames := 2, cells := 0, slots := 0, locals := 61 } : Room) = RM
  generalize hQQ : MQ below (QW (S := Unit) (dC, dI) vwCl A (fun u => some (.int (zI liq))) (fun u => [(w0, .inr (4, [.ref x0, .ref h0, .ref g0, .ref p0, .ref q0, .ref r0, .int (zI fk), .int (zI sk), .ref t0, .ref b1, .ref b2, .long tr])), (p0, .inr (1, [.int (zI sgq), .int (zI loq), .int (zI liq), .int (zI knq), .ref p1, .ref p2])), (p1, .inl (cI, 9, .inl (zA (zc alq al 0 0 9)))), (p2, .inl (cI, 20, .inl (zA (zc ahq ah 0 0 20)))), (q0, .inr (1, [.int (zI sgq), .int (zI loq), .int (zI liq), .int (zI knq), .ref q1, .ref q2])), (q1, .inl (cI, 9, .inl (zA alq))), (q2, .inl (cI, 20, .inl (zA ahq))), (r0, .inr (1, [.int (zI sgr), .int (zI lor), .int (zI lir), .int (zI knr), .ref r1, .ref r2])), (r1, .inl (cI, 9, .inl (zA alr))), (r2, .inl (cI, 20, .inl (zA ahr)))]) (fun u => True)) args s 0 0 A = QQ
  have in_X1 : ∀ w ∈ wsX10, w ∈ wsX5_back := by decide +kernel
  have in_X5 : ∀ w ∈ wsX50, w ∈ wsX5_back := by decide +kernel
  have w_0 := hts (.fieldLink RX5 71 "WallMarbles" "firstKept" "Z") (by decide +kernel)
  have w_1 := hts (.fieldLink RX5 29 "WallMarbles" "present" "LWallMarbles$Present;") (by decide +kernel)
  have w_2 := hts (.fieldLink RX5 33 "WallMarbles" "firstImage" "LWallMarbles$Present;") (by decide +kernel)
  have n_113 := va_Nw.use (A := args) rfl (zN_5 hE)
  refine lv_iload_n hx hb dX5_back_0 rfl (lv_at hl 1 rfl) ?_
  refine zv_if_eq (tgt := 11) hx hb (by omega) dX5_back_1 (by decide) (fun c_1 => ?_) (fun c_1 => ?_)
  · refine lv_iload_n hx hb dX5_back_11 rfl (lv_at hl 1 rfl) ?_
    refine zv_if_ne (tgt := 25) hx hb (by omega) dX5_back_12 (by decide) (fun c_12 => ?_) (fun c_12 => ?_)
    · exfalso; omega
    · refine lv_aload_n hx hb dX5_back_15 rfl (lv_at hl 0 rfl) ?_
      refine va_get (D := (dC, dI)) (ci := 4) (v := .int (zI fk)) (C := RX5) (T := TX5) (N := 12) hx hb hts in_X5 hown hK hP 0 rfl rfl 6 (by decide) w_0 (fun _ h9 => h9) rfl dX5_back_16 ?_
      refine zv_if_ne (tgt := 35) hx hb (by omega) dX5_back_19 (by decide) (fun c_19 => ?_) (fun c_19 => ?_)
      · refine lv_aload_n hx hb dX5_back_35 rfl (lv_at hl 0 rfl) ?_
        refine va_get (D := (dC, dI)) (ci := 4) (v := .ref p0) (C := RX5) (T := TX5) (N := 12) hx hb hts in_X5 hown hK hP 0 rfl rfl 3 (by decide) w_1 (fun _ h9 => h9) rfl dX5_back_36 ?_
        refine lv_iload_n hx hb dX5_back_39 rfl (lv_at hl 1 rfl) ?_
        refine zv_if_ne (tgt := 50) hx hb (by omega) dX5_back_40 (by decide) (fun c_40 => ?_) (fun c_40 => ?_)
        · exfalso; omega
        · refine lv_aload_n hx hb dX5_back_43 rfl (lv_at hl 0 rfl) ?_
          refine va_get (D := (dC, dI)) (ci := 4) (v := .ref q0) (C := RX5) (T := TX5) (N := 12) hx hb hts in_X5 hown hK hP 0 rfl rfl 4 (by decide) w_2 (fun _ h9 => h9) rfl dX5_back_44 ?_
          refine lv_goto (tgt := 54) hx hb dX5_back_47 (by decide) ?_
          refine zv_callWV (As := [.ref q0]) (rest := []) (ws2 := fun u => [(w0, .inr (4, [.ref x0, .ref h0, .ref g0, .ref p0, .ref q0, .ref r0, .int (zI fk), .int (zI sk), .ref t0, .ref b1, .ref b2, .long tr])), (p0, .inr (1, [.int (zI sgq), .int (zI loq), .int (zI liq), .int (zI knq), .ref p1, .ref p2])), (p1, .inl (cI, 9, .inl (zA (zc alq al 0 0 9)))), (p2, .inl (cI, 20, .inl (zA (zc ahq ah 0 0 20)))), (q0, .inr (1, [.int (zI sgq), .int (zI loq), .int (zI liq), .int (zI knq), .ref q1, .ref q2])), (q1, .inl (cI, 9, .inl (zA alq))), (q2, .inl (cI, 20, .inl (zA ahq))), (r0, .inr (1, [.int (zI sgr), .int (zI lor), .int (zI lir), .int (zI knr), .ref r1, .ref r2])), (r1, .inl (cI, 9, .inl (zA alr))), (r2, .inl (cI, 20, .inl (zA ahr)))]) ⟨hx, hb, hml, hown, hts⟩ (c_X1_become l dC dI cI cB cZ p0 p1 p2 sg lo li kn al ah q0 q1 q2 sgq loq liq knq alq ahq ) (cwV 1 hts gX5_back_X1_become rfl rfl rfl (by decide +kernel) ⟨by rw [← hRM]; first | decide | (dsimp only; omega), by rw [← hRM]; first | decide | (dsimp only; omega)⟩) hP hD hS hA hK [1, 2, 3, 4, 5, 6] rfl (by decide) [0, 1, 2] rfl zN_bl (zN_go hE) (fun _ => rfl) (fun _ => rfl) (q0 := 0) rfl rfl rfl rfl hl.1 rfl (Nat.le_of_ble_eq_true rfl) dX5_back_54 ⟨Nat.zero_le _, Nat.zero_le _⟩ (fun u H locs hpo hP hD hS => ?_)
          have hP : va_P (dC, dI) vwCl [(w0, .inr (4, [.ref x0, .ref h0, .ref g0, .ref p0, .ref q0, .ref r0, .int (zI fk), .int (zI sk), .ref t0, .ref b1, .ref b2, .long tr])), (p0, .inr (1, [.int (zI sgq), .int (zI loq), .int (zI liq), .int (zI knq), .ref p1, .ref p2])), (p1, .inl (cI, 9, .inl (zA (zc alq al 0 0 9)))), (p2, .inl (cI, 20, .inl (zA (zc ahq ah 0 0 20)))), (q0, .inr (1, [.int (zI sgq), .int (zI loq), .int (zI liq), .int (zI knq), .ref q1, .ref q2])), (q1, .inl (cI, 9, .inl (zA alq))), (q2, .inl (cI, 20, .inl (zA ahq))), (r0, .inr (1, [.int (zI sgr), .int (zI lor), .int (zI lir), .int (zI knr), .ref r1, .ref r2])), (r1, .inl (cI, 9, .inl (zA alr))), (r2, .inl (cI, 20, .inl (zA ahr)))] H := hP
          have hD : va_D A [(w0, .inr (4, [.ref x0, .ref h0, .ref g0, .ref p0, .ref q0, .ref r0, .int (zI fk), .int (zI sk), .ref t0, .ref b1, .ref b2, .long tr])), (p0, .inr (1, [.int (zI sgq), .int (zI loq), .int (zI liq), .int (zI knq), .ref p1, .ref p2])), (p1, .inl (cI, 9, .inl (zA (zc alq al 0 0 9)))), (p2, .inl (cI, 20, .inl (zA (zc ahq ah 0 0 20)))), (q0, .inr (1, [.int (zI sgq), .int (zI loq), .int (zI liq), .int (zI knq), .ref q1, .ref q2])), (q1, .inl (cI, 9, .inl (zA alq))), (q2, .inl (cI, 20, .inl (zA ahq))), (r0, .inr (1, [.int (zI sgr), .int (zI lor), .int (zI lir), .int (zI knr), .ref r1, .ref r2])), (r1, .inl (cI, 9, .inl (zA alr))), (r2, .inl (cI, 20, .inl (zA ahr)))] := hD
          refine W.eq (g2 := F0 m 57 ls []) rfl ?_
          refine lv_aload_n hx hb dX5_back_57 rfl (lv_at hl 0 rfl) ?_
          refine va_get (D := (dC, dI)) (ci := 4) (v := .ref p0) (C := RX5) (T := TX5) (N := 12) hx hb hts in_X5 hown hK hP 0 rfl rfl 3 (by decide) w_1 (fun _ h9 => h9) rfl dX5_back_58 ?_
          refine va_getN (D := (dC, dI)) (ci := 1) (v := .int (zI liq)) (C := RX1) (T := TX1) (N := 6) hx hb hts in_X1 hown hK hP 1 rfl rfl 2 (by decide) n_113 (fun _ h9 => h9) rfl dX5_back_61 ?_
          rw [← hQQ]
          exact zw_iret hx hb hr hlocks () rfl trivial hP hS dX5_back_64
      · exfalso; omega
  · exfalso; omega
set_option maxHeartbeats 4000000 in
set_option maxRecDepth 100000 in
theorem c_X5_back1 (l : Launch) (dC : Nat → ClassId) (dI : Nat → Nat → Nat) (cI cB cZ : ClassId) (w0 : Nat) (x0 : Nat) (h0 : Nat) (g0 : Nat) (p0 : Nat) (q0 : Nat) (r0 : Nat) (fk : Int) (sk : Int) (t0 : Nat) (b1 : Nat) (b2 : Nat) (tr : Int64) (p1 : Nat) (p2 : Nat) (sg : Int) (lo : Int) (li : Int) (kn : Int) (al : Int → Int) (ah : Int → Int) (q1 : Nat) (q2 : Nat) (sgq : Int) (loq : Int) (liq : Int) (knq : Int) (alq : Int → Int) (ahq : Int → Int) (r1 : Nat) (r2 : Nat) (sgr : Int) (lor : Int) (lir : Int) (knr : Int) (alr : Int → Int) (ahr : Int → Int) (im : Int) (him : -2147483648 ≤ im ∧ im ≤ 2147483647) (hfk : (fk = 0 ∨ fk = 1) ∧ (sk = 0 ∨ sk = 1)) (hok : im = 1 ∧ sk = 1) : MetW (S := Unit) l yX5_back wsX5_back ({ frames := 2, cells := 0, slots := 0, locals := 61 }) (dC, dI) vwCl (zT cI cB cZ) zN [(w0, .inr (4, [.ref x0, .ref h0, .ref g0, .ref p0, .ref q0, .ref r0, .int (zI fk), .int (zI sk), .ref t0, .ref b1, .ref b2, .long tr])), (p0, .inr (1, [.int (zI sg), .int (zI lo), .int (zI li), .int (zI kn), .ref p1, .ref p2])), (p1, .inl (cI, 9, .inl (zA al))), (p2, .inl (cI, 20, .inl (zA ah))), (q0, .inr (1, [.int (zI sgq), .int (zI loq), .int (zI liq), .int (zI knq), .ref q1, .ref q2])), (q1, .inl (cI, 9, .inl (zA alq))), (q2, .inl (cI, 20, .inl (zA ahq))), (r0, .inr (1, [.int (zI sgr), .int (zI lor), .int (zI lir), .int (zI knr), .ref r1, .ref r2])), (r1, .inl (cI, 9, .inl (zA alr))), (r2, .inl (cI, 20, .inl (zA ahr)))] [.ref w0, .int (zI im)] (fun u => some (.int (zI lir))) (fun u => [(w0, .inr (4, [.ref x0, .ref h0, .ref g0, .ref p0, .ref q0, .ref r0, .int (zI fk), .int (zI sk), .ref t0, .ref b1, .ref b2, .long tr])), (p0, .inr (1, [.int (zI sgr), .int (zI lor), .int (zI lir), .int (zI knr), .ref p1, .ref p2])), (p1, .inl (cI, 9, .inl (zA (zc alr al 0 0 9)))), (p2, .inl (cI, 20, .inl (zA (zc ahr ah 0 0 20)))), (q0, .inr (1, [.int (zI sgq), .int (zI loq), .int (zI liq), .int (zI knq), .ref q1, .ref q2])), (q1, .inl (cI, 9, .inl (zA alq))), (q2, .inl (cI, 20, .inl (zA ahq))), (r0, .inr (1, [.int (zI sgr), .int (zI lor), .int (zI lir), .int (zI knr), .ref r1, .ref r2])), (r1, .inl (cI, 9, .inl (zA alr))), (r2, .inl (cI, 20, .inl (zA ahr)))]) (fun u => True) := by
  refine MetW.intro (cc := cX5_back) (maxL := 2) (ret := (some .int)) (by decide) rfl (Nat.le_of_ble_eq_true rfl) ?_
  intro p e s m args below meth c A hx hb hr hlocks hml hts hown hP hK hD hS hA hE ls hl
  have hown : s.vm.findClass RX5 = some m.cls := hown
  have hl : lv_has ls 2 [(0, .ref w0), (1, .int (zI im))] := hl
  generalize hRM : ({ frames := 2, cells := 0, slots := 0, locals := 61 } : Room) = RM
  generalize hQQ : MQ below (QW (S := Unit) (dC, dI) vwCl A (fun u => some (.int (zI lir))) (fun u => [(w0, .inr (4, [.ref x0, .ref h0, .ref g0, .ref p0, .ref q0, .ref r0, .int (zI fk), .int (zI sk), .ref t0, .ref b1, .ref b2, .long tr])), (p0, .inr (1, [.int (zI sgr), .int (zI lor), .int (zI lir), .int (zI knr), .ref p1, .ref p2])), (p1, .inl (cI, 9, .inl (zA (zc alr al 0 0 9)))), (p2, .inl (cI, 20, .inl (zA (zc ahr ah 0 0 20)))), (q0, .inr (1, [.int (zI sgq), .int (zI loq), .int (zI liq), .int (zI knq), .ref q1, .ref q2])), (q1, .inl (cI, 9, .inl (zA alq))), (q2, .inl (cI, 20, .inl (zA ahq))), (r0, .inr (1, [.int (zI sgr), .int (zI lor), .int (zI lir), .int (zI knr), .ref r1, .ref r2])), (r1, .inl (cI, 9, .inl (zA alr))), (r2, .inl (cI, 20, .inl (zA ahr)))]) (fun u => True)) args s 0 0 A = QQ
  have in_X1 : ∀ w ∈ wsX10, w ∈ wsX5_back := by decide +kernel
  have in_X5 : ∀ w ∈ wsX50, w ∈ wsX5_back := by decide +kernel
  have w_0 := hts (.fieldLink RX5 75 "WallMarbles" "secondKept" "Z") (by decide +kernel)
  have w_1 := hts (.fieldLink RX5 29 "WallMarbles" "present" "LWallMarbles$Present;") (by decide +kernel)
  have w_2 := hts (.fieldLink RX5 36 "WallMarbles" "secondImage" "LWallMarbles$Present;") (by decide +kernel)
  have n_113 := va_Nw.use (A := args) rfl (zN_5 hE)
  refine lv_iload_n hx hb dX5_back_0 rfl (lv_at hl 1 rfl) ?_
  refine zv_if_eq (tgt := 11) hx hb (by omega) dX5_back_1 (by decide) (fun c_1 => ?_) (fun c_1 => ?_)
  · exfalso; omega
  · refine lv_iload_n hx hb dX5_back_4 rfl (lv_at hl 1 rfl) ?_
    refine zv_iconst hx hb dX5_back_5 ?_
    refine zv_icmp_eq (tgt := 11) hx hb (by omega) (by omega) dX5_back_6 (by decide) (fun c_6 => ?_) (fun c_6 => ?_)
    · refine lv_iload_n hx hb dX5_back_11 rfl (lv_at hl 1 rfl) ?_
      refine zv_if_ne (tgt := 25) hx hb (by omega) dX5_back_12 (by decide) (fun c_12 => ?_) (fun c_12 => ?_)
      · refine lv_aload_n hx hb dX5_back_25 rfl (lv_at hl 0 rfl) ?_
        refine va_get (D := (dC, dI)) (ci := 4) (v := .int (zI sk)) (C := RX5) (T := TX5) (N := 12) hx hb hts in_X5 hown hK hP 0 rfl rfl 7 (by decide) w_0 (fun _ h9 => h9) rfl dX5_back_26 ?_
        refine zv_if_ne (tgt := 35) hx hb (by omega) dX5_back_29 (by decide) (fun c_29 => ?_) (fun c_29 => ?_)
        · refine lv_aload_n hx hb dX5_back_35 rfl (lv_at hl 0 rfl) ?_
          refine va_get (D := (dC, dI)) (ci := 4) (v := .ref p0) (C := RX5) (T := TX5) (N := 12) hx hb hts in_X5 hown hK hP 0 rfl rfl 3 (by decide) w_1 (fun _ h9 => h9) rfl dX5_back_36 ?_
          refine lv_iload_n hx hb dX5_back_39 rfl (lv_at hl 1 rfl) ?_
          refine zv_if_ne (tgt := 50) hx hb (by omega) dX5_back_40 (by decide) (fun c_40 => ?_) (fun c_40 => ?_)
          · refine lv_aload_n hx hb dX5_back_50 rfl (lv_at hl 0 rfl) ?_
            refine va_get (D := (dC, dI)) (ci := 4) (v := .ref r0) (C := RX5) (T := TX5) (N := 12) hx hb hts in_X5 hown hK hP 0 rfl rfl 5 (by decide) w_2 (fun _ h9 => h9) rfl dX5_back_51 ?_
            refine zv_callWV (As := [.ref r0]) (rest := []) (ws2 := fun u => [(w0, .inr (4, [.ref x0, .ref h0, .ref g0, .ref p0, .ref q0, .ref r0, .int (zI fk), .int (zI sk), .ref t0, .ref b1, .ref b2, .long tr])), (p0, .inr (1, [.int (zI sgr), .int (zI lor), .int (zI lir), .int (zI knr), .ref p1, .ref p2])), (p1, .inl (cI, 9, .inl (zA (zc alr al 0 0 9)))), (p2, .inl (cI, 20, .inl (zA (zc ahr ah 0 0 20)))), (q0, .inr (1, [.int (zI sgq), .int (zI loq), .int (zI liq), .int (zI knq), .ref q1, .ref q2])), (q1, .inl (cI, 9, .inl (zA alq))), (q2, .inl (cI, 20, .inl (zA ahq))), (r0, .inr (1, [.int (zI sgr), .int (zI lor), .int (zI lir), .int (zI knr), .ref r1, .ref r2])), (r1, .inl (cI, 9, .inl (zA alr))), (r2, .inl (cI, 20, .inl (zA ahr)))]) ⟨hx, hb, hml, hown, hts⟩ (c_X1_become l dC dI cI cB cZ p0 p1 p2 sg lo li kn al ah r0 r1 r2 sgr lor lir knr alr ahr ) (cwV 1 hts gX5_back_X1_become rfl rfl rfl (by decide +kernel) ⟨by rw [← hRM]; first | decide | (dsimp only; omega), by rw [← hRM]; first | decide | (dsimp only; omega)⟩) hP hD hS hA hK [1, 2, 3, 7, 8, 9] rfl (by decide) [0, 1, 2] rfl zN_bl (zN_go hE) (fun _ => rfl) (fun _ => rfl) (q0 := 0) rfl rfl rfl rfl hl.1 rfl (Nat.le_of_ble_eq_true rfl) dX5_back_54 ⟨Nat.zero_le _, Nat.zero_le _⟩ (fun u H locs hpo hP hD hS => ?_)
            have hP : va_P (dC, dI) vwCl [(w0, .inr (4, [.ref x0, .ref h0, .ref g0, .ref p0, .ref q0, .ref r0, .int (zI fk), .int (zI sk), .ref t0, .ref b1, .ref b2, .long tr])), (p0, .inr (1, [.int (zI sgr), .int (zI lor), .int (zI lir), .int (zI knr), .ref p1, .ref p2])), (p1, .inl (cI, 9, .inl (zA (zc alr al 0 0 9)))), (p2, .inl (cI, 20, .inl (zA (zc ahr ah 0 0 20)))), (q0, .inr (1, [.int (zI sgq), .int (zI loq), .int (zI liq), .int (zI knq), .ref q1, .ref q2])), (q1, .inl (cI, 9, .inl (zA alq))), (q2, .inl (cI, 20, .inl (zA ahq))), (r0, .inr (1, [.int (zI sgr), .int (zI lor), .int (zI lir), .int (zI knr), .ref r1, .ref r2])), (r1, .inl (cI, 9, .inl (zA alr))), (r2, .inl (cI, 20, .inl (zA ahr)))] H := hP
            have hD : va_D A [(w0, .inr (4, [.ref x0, .ref h0, .ref g0, .ref p0, .ref q0, .ref r0, .int (zI fk), .int (zI sk), .ref t0, .ref b1, .ref b2, .long tr])), (p0, .inr (1, [.int (zI sgr), .int (zI lor), .int (zI lir), .int (zI knr), .ref p1, .ref p2])), (p1, .inl (cI, 9, .inl (zA (zc alr al 0 0 9)))), (p2, .inl (cI, 20, .inl (zA (zc ahr ah 0 0 20)))), (q0, .inr (1, [.int (zI sgq), .int (zI loq), .int (zI liq), .int (zI knq), .ref q1, .ref q2])), (q1, .inl (cI, 9, .inl (zA alq))), (q2, .inl (cI, 20, .inl (zA ahq))), (r0, .inr (1, [.int (zI sgr), .int (zI lor), .int (zI lir), .int (zI knr), .ref r1, .ref r2])), (r1, .inl (cI, 9, .inl (zA alr))), (r2, .inl (cI, 20, .inl (zA ahr)))] := hD
            refine W.eq (g2 := F0 m 57 ls []) rfl ?_
            refine lv_aload_n hx hb dX5_back_57 rfl (lv_at hl 0 rfl) ?_
            refine va_get (D := (dC, dI)) (ci := 4) (v := .ref p0) (C := RX5) (T := TX5) (N := 12) hx hb hts in_X5 hown hK hP 0 rfl rfl 3 (by decide) w_1 (fun _ h9 => h9) rfl dX5_back_58 ?_
            refine va_getN (D := (dC, dI)) (ci := 1) (v := .int (zI lir)) (C := RX1) (T := TX1) (N := 6) hx hb hts in_X1 hown hK hP 1 rfl rfl 2 (by decide) n_113 (fun _ h9 => h9) rfl dX5_back_61 ?_
            rw [← hQQ]
            exact zw_iret hx hb hr hlocks () rfl trivial hP hS dX5_back_64
          · exfalso; omega
        · exfalso; omega
      · exfalso; omega
    · exfalso; omega
