set_option maxHeartbeats 4000000 in
set_option maxRecDepth 100000 in
theorem c_X0_has (l : Launch) (dC : Nat → ClassId) (dI : Nat → Nat → Nat) (cI cB cZ : ClassId) (h0 : Nat) (h1 : Nat) (h2 : Nat) (h3 : Nat) (h4 : Nat) (n : Int) (so : Int → Int) (le : Int → Int) (ri : Int → Int) (ti : Int → Int) (k : Int) (hn : 0 ≤ n ∧ n ≤ 9) (hk : -2147483648 ≤ k ∧ k ≤ 2147483647) : MetR l yX0_has wsX0_has ({ frames := 0, cells := 0, slots := 0, locals := 0 }) (dC, dI) vwCl (zT cI cB cZ) zN [(h0, .inr (0, [.int (zI n), .ref h1, .ref h2, .ref h3, .ref h4])), (h1, .inl (cI, 9, .inl (zA so))), (h2, .inl (cI, 9, .inl (zA le))), (h3, .inl (cI, 9, .inl (zA ri))), (h4, .inl (cI, 9, .inl (zA ti)))] [.ref h0, .int (zI k)] (zI (bZ (0 ≤ k ∧ k < n))) := by
  refine MetR.intro (cc := cX0_has) (maxL := 2) (ret := (some .boolean)) (by decide) rfl (Nat.le_of_ble_eq_true rfl) ?_
  intro p e s m args below meth c hx hb hr hlocks hml hts hown hP hK hE ls hl
  have hown : s.vm.findClass RX0 = some m.cls := hown
  have hl : lv_has ls 2 [(0, .ref h0), (1, .int (zI k))] := hl
  generalize hRM : ({ frames := 0, cells := 0, slots := 0, locals := 0 } : Room) = RM
  generalize hQQ : MQ below (vp_Si (fun r => r = zI (bZ (0 ≤ k ∧ k < n)))) args s 0 0 (fun _ => False) = QQ
  have in_X0 : ∀ w ∈ wsX00, w ∈ wsX0_has := by decide +kernel
  have w_0 := hts (.fieldLink RX0 24 "WallMarbles$House" "size" "I") (by decide +kernel)
  refine lv_iload_n hx hb dX0_has_0 rfl (lv_at hl 1 rfl) ?_
  refine zv_if_lt (tgt := 22) hx hb (by omega) dX0_has_1 (by decide) (fun c_1 => ?_) (fun c_1 => ?_)
  · refine zv_iconst hx hb dX0_has_22 ?_
    rw [← hQQ]
    exact zr_zret hx hb hr hlocks (by first | exact z_nar_bool | rfl) (congrArg zI (show 0 = bZ (0 ≤ k ∧ k < n) from by first | rfl | omega | exact (bZ_t (by omega)).symm | exact (bZ_f (by omega)).symm)) dX0_has_23
  · refine lv_iload_n hx hb dX0_has_4 rfl (lv_at hl 1 rfl) ?_
    refine lv_aload_n hx hb dX0_has_5 rfl (lv_at hl 0 rfl) ?_
    refine va_get (D := (dC, dI)) (ci := 0) (v := .int (zI n)) (C := RX0) (T := TX0) (N := 5) hx hb hts in_X0 hown hK hP 0 rfl rfl 0 (by decide) w_0 (fun _ h9 => h9) rfl dX0_has_6 ?_
    refine zv_icmp_ge (tgt := 22) hx hb (by omega) (by omega) dX0_has_9 (by decide) (fun c_9 => ?_) (fun c_9 => ?_)
    · refine zv_iconst hx hb dX0_has_22 ?_
      rw [← hQQ]
      exact zr_zret hx hb hr hlocks (by first | exact z_nar_bool | rfl) (congrArg zI (show 0 = bZ (0 ≤ k ∧ k < n) from by first | rfl | omega | exact (bZ_t (by omega)).symm | exact (bZ_f (by omega)).symm)) dX0_has_23
    · refine lv_iload_n hx hb dX0_has_12 rfl (lv_at hl 1 rfl) ?_
      refine zv_bipush hx hb dX0_has_13 (by decide +kernel) ?_
      refine zv_icmp_ge (tgt := 22) hx hb (by omega) (by omega) dX0_has_15 (by decide) (fun c_15 => ?_) (fun c_15 => ?_)
      · refine zv_iconst hx hb dX0_has_22 ?_
        rw [← hQQ]
        exact zr_zret hx hb hr hlocks (by first | exact z_nar_bool | rfl) (congrArg zI (show 0 = bZ (0 ≤ k ∧ k < n) from by first | rfl | omega | exact (bZ_t (by omega)).symm | exact (bZ_f (by omega)).symm)) dX0_has_23
      · refine zv_iconst hx hb dX0_has_18 ?_
        refine lv_goto (tgt := 23) hx hb dX0_has_19 (by decide) ?_
        rw [← hQQ]
        exact zr_zret hx hb hr hlocks (by first | exact z_nar_bool | rfl) (congrArg zI (show 1 = bZ (0 ≤ k ∧ k < n) from by first | rfl | omega | exact (bZ_t (by omega)).symm | exact (bZ_f (by omega)).symm)) dX0_has_23
set_option maxHeartbeats 4000000 in
set_option maxRecDepth 100000 in
theorem c_X0_sortOf (l : Launch) (dC : Nat → ClassId) (dI : Nat → Nat → Nat) (cI cB cZ : ClassId) (h0 : Nat) (h1 : Nat) (h2 : Nat) (h3 : Nat) (h4 : Nat) (n : Int) (so : Int → Int) (le : Int → Int) (ri : Int → Int) (ti : Int → Int) (k : Int) (hn : 0 ≤ n ∧ n ≤ 9) (hk : -2147483648 ≤ k ∧ k ≤ 2147483647) : MetR l yX0_sortOf wsX0_sortOf ({ frames := 1, cells := 0, slots := 0, locals := 21 }) (dC, dI) vwCl (zT cI cB cZ) zN [(h0, .inr (0, [.int (zI n), .ref h1, .ref h2, .ref h3, .ref h4])), (h1, .inl (cI, 9, .inl (zA so))), (h2, .inl (cI, 9, .inl (zA le))), (h3, .inl (cI, 9, .inl (zA ri))), (h4, .inl (cI, 9, .inl (zA ti)))] [.ref h0, .int (zI k)] (zI (if 0 ≤ k ∧ k < n then so k else -9)) := by
  refine MetR.intro (cc := cX0_sortOf) (maxL := 2) (ret := (some .int)) (by decide) rfl (Nat.le_of_ble_eq_true rfl) ?_
  intro p e s m args below meth c hx hb hr hlocks hml hts hown hP hK hE ls hl
  have hown : s.vm.findClass RX0 = some m.cls := hown
  have hl : lv_has ls 2 [(0, .ref h0), (1, .int (zI k))] := hl
  generalize hRM : ({ frames := 1, cells := 0, slots := 0, locals := 21 } : Room) = RM
  generalize hQQ : MQ below (vp_Si (fun r => r = zI (if 0 ≤ k ∧ k < n then so k else -9))) args s 0 0 (fun _ => False) = QQ
  have in_X0 : ∀ w ∈ wsX00, w ∈ wsX0_sortOf := by decide +kernel
  have w_0 := hts (.fieldLink RX0 9 "WallMarbles$House" "sorts" "[I") (by decide +kernel)
  refine lv_aload_n hx hb dX0_sortOf_0 rfl (lv_at hl 0 rfl) ?_
  refine lv_iload_n hx hb dX0_sortOf_1 rfl (lv_at hl 1 rfl) ?_
  refine zv_callRV (As := [.int (zI k)]) (rest := []) ⟨hx, hb, hml, hown, hts⟩ (c_X0_has l dC dI cI cB cZ h0 h1 h2 h3 h4 n so le ri ti k (by omega) (by omega)) (cwV 1 hts gX0_sortOf_X0_has rfl rfl rfl (by decide +kernel) ⟨by rw [← hRM]; first | decide | (dsimp only; omega), by rw [← hRM]; first | decide | (dsimp only; omega)⟩) hP hK [0, 1, 2, 3, 4] rfl [0, 1, 2] rfl zN_bl (zN_go hE) (q0 := 0) rfl rfl rfl rfl hl.1 rfl (Nat.le_of_ble_eq_true rfl) dX0_sortOf_2 ⟨Nat.zero_le _, Nat.zero_le _⟩ ?_
  refine zv_ifeq_b (tgt := 17) hx hb dX0_sortOf_5 (by decide) (fun c_5 => ?_) (fun c_5 => ?_)
  · refine zv_bipush hx hb dX0_sortOf_17 (by decide +kernel) ?_
    rw [← hQQ]
    exact zr_iret hx hb hr hlocks (congrArg zI (show (-9) = if 0 ≤ k ∧ k < n then so k else -9 from by first | exact (if_pos c_5).symm | exact (if_neg c_5).symm)) dX0_sortOf_19
  · refine lv_aload_n hx hb dX0_sortOf_8 rfl (lv_at hl 0 rfl) ?_
    refine va_get (D := (dC, dI)) (ci := 0) (v := .ref h1) (C := RX0) (T := TX0) (N := 5) hx hb hts in_X0 hown hK hP 0 rfl rfl 1 (by decide) w_0 (fun _ h9 => h9) rfl dX0_sortOf_9 ?_
    refine lv_iload_n hx hb dX0_sortOf_12 rfl (lv_at hl 1 rfl) ?_
    refine zv_iald hx hb hK hP 1 0 rfl rfl (by omega) dX0_sortOf_13 ?_
    refine lv_goto (tgt := 19) hx hb dX0_sortOf_14 (by decide) ?_
    rw [← hQQ]
    exact zr_iret hx hb hr hlocks (congrArg zI (show so k = if 0 ≤ k ∧ k < n then so k else -9 from by first | exact (if_pos c_5).symm | exact (if_neg c_5).symm)) dX0_sortOf_19
set_option maxHeartbeats 4000000 in
set_option maxRecDepth 100000 in
theorem c_X0_leftOf (l : Launch) (dC : Nat → ClassId) (dI : Nat → Nat → Nat) (cI cB cZ : ClassId) (h0 : Nat) (h1 : Nat) (h2 : Nat) (h3 : Nat) (h4 : Nat) (n : Int) (so : Int → Int) (le : Int → Int) (ri : Int → Int) (ti : Int → Int) (k : Int) (hn : 0 ≤ n ∧ n ≤ 9) (hk : -2147483648 ≤ k ∧ k ≤ 2147483647) : MetR l yX0_leftOf wsX0_leftOf ({ frames := 1, cells := 0, slots := 0, locals := 21 }) (dC, dI) vwCl (zT cI cB cZ) zN [(h0, .inr (0, [.int (zI n), .ref h1, .ref h2, .ref h3, .ref h4])), (h1, .inl (cI, 9, .inl (zA so))), (h2, .inl (cI, 9, .inl (zA le))), (h3, .inl (cI, 9, .inl (zA ri))), (h4, .inl (cI, 9, .inl (zA ti)))] [.ref h0, .int (zI k)] (zI (if 0 ≤ k ∧ k < n then le k else -9)) := by
  refine MetR.intro (cc := cX0_leftOf) (maxL := 2) (ret := (some .int)) (by decide) rfl (Nat.le_of_ble_eq_true rfl) ?_
  intro p e s m args below meth c hx hb hr hlocks hml hts hown hP hK hE ls hl
  have hown : s.vm.findClass RX0 = some m.cls := hown
  have hl : lv_has ls 2 [(0, .ref h0), (1, .int (zI k))] := hl
  generalize hRM : ({ frames := 1, cells := 0, slots := 0, locals := 21 } : Room) = RM
  generalize hQQ : MQ below (vp_Si (fun r => r = zI (if 0 ≤ k ∧ k < n then le k else -9))) args s 0 0 (fun _ => False) = QQ
  have in_X0 : ∀ w ∈ wsX00, w ∈ wsX0_leftOf := by decide +kernel
  have w_0 := hts (.fieldLink RX0 15 "WallMarbles$House" "lefts" "[I") (by decide +kernel)
  refine lv_aload_n hx hb dX0_leftOf_0 rfl (lv_at hl 0 rfl) ?_
  refine lv_iload_n hx hb dX0_leftOf_1 rfl (lv_at hl 1 rfl) ?_
  refine zv_callRV (As := [.int (zI k)]) (rest := []) ⟨hx, hb, hml, hown, hts⟩ (c_X0_has l dC dI cI cB cZ h0 h1 h2 h3 h4 n so le ri ti k (by omega) (by omega)) (cwV 1 hts gX0_leftOf_X0_has rfl rfl rfl (by decide +kernel) ⟨by rw [← hRM]; first | decide | (dsimp only; omega), by rw [← hRM]; first | decide | (dsimp only; omega)⟩) hP hK [0, 1, 2, 3, 4] rfl [0, 1, 2] rfl zN_bl (zN_go hE) (q0 := 0) rfl rfl rfl rfl hl.1 rfl (Nat.le_of_ble_eq_true rfl) dX0_leftOf_2 ⟨Nat.zero_le _, Nat.zero_le _⟩ ?_
  refine zv_ifeq_b (tgt := 17) hx hb dX0_leftOf_5 (by decide) (fun c_5 => ?_) (fun c_5 => ?_)
  · refine zv_bipush hx hb dX0_leftOf_17 (by decide +kernel) ?_
    rw [← hQQ]
    exact zr_iret hx hb hr hlocks (congrArg zI (show (-9) = if 0 ≤ k ∧ k < n then le k else -9 from by first | exact (if_pos c_5).symm | exact (if_neg c_5).symm)) dX0_leftOf_19
  · refine lv_aload_n hx hb dX0_leftOf_8 rfl (lv_at hl 0 rfl) ?_
    refine va_get (D := (dC, dI)) (ci := 0) (v := .ref h2) (C := RX0) (T := TX0) (N := 5) hx hb hts in_X0 hown hK hP 0 rfl rfl 2 (by decide) w_0 (fun _ h9 => h9) rfl dX0_leftOf_9 ?_
    refine lv_iload_n hx hb dX0_leftOf_12 rfl (lv_at hl 1 rfl) ?_
    refine zv_iald hx hb hK hP 2 0 rfl rfl (by omega) dX0_leftOf_13 ?_
    refine lv_goto (tgt := 19) hx hb dX0_leftOf_14 (by decide) ?_
    rw [← hQQ]
    exact zr_iret hx hb hr hlocks (congrArg zI (show le k = if 0 ≤ k ∧ k < n then le k else -9 from by first | exact (if_pos c_5).symm | exact (if_neg c_5).symm)) dX0_leftOf_19
set_option maxHeartbeats 4000000 in
set_option maxRecDepth 100000 in
theorem c_X0_rightOf (l : Launch) (dC : Nat → ClassId) (dI : Nat → Nat → Nat) (cI cB cZ : ClassId) (h0 : Nat) (h1 : Nat) (h2 : Nat) (h3 : Nat) (h4 : Nat) (n : Int) (so : Int → Int) (le : Int → Int) (ri : Int → Int) (ti : Int → Int) (k : Int) (hn : 0 ≤ n ∧ n ≤ 9) (hk : -2147483648 ≤ k ∧ k ≤ 2147483647) : MetR l yX0_rightOf wsX0_rightOf ({ frames := 1, cells := 0, slots := 0, locals := 21 }) (dC, dI) vwCl (zT cI cB cZ) zN [(h0, .inr (0, [.int (zI n), .ref h1, .ref h2, .ref h3, .ref h4])), (h1, .inl (cI, 9, .inl (zA so))), (h2, .inl (cI, 9, .inl (zA le))), (h3, .inl (cI, 9, .inl (zA ri))), (h4, .inl (cI, 9, .inl (zA ti)))] [.ref h0, .int (zI k)] (zI (if 0 ≤ k ∧ k < n then ri k else -9)) := by
  refine MetR.intro (cc := cX0_rightOf) (maxL := 2) (ret := (some .int)) (by decide) rfl (Nat.le_of_ble_eq_true rfl) ?_
  intro p e s m args below meth c hx hb hr hlocks hml hts hown hP hK hE ls hl
  have hown : s.vm.findClass RX0 = some m.cls := hown
  have hl : lv_has ls 2 [(0, .ref h0), (1, .int (zI k))] := hl
  generalize hRM : ({ frames := 1, cells := 0, slots := 0, locals := 21 } : Room) = RM
  generalize hQQ : MQ below (vp_Si (fun r => r = zI (if 0 ≤ k ∧ k < n then ri k else -9))) args s 0 0 (fun _ => False) = QQ
  have in_X0 : ∀ w ∈ wsX00, w ∈ wsX0_rightOf := by decide +kernel
  have w_0 := hts (.fieldLink RX0 18 "WallMarbles$House" "rights" "[I") (by decide +kernel)
  refine lv_aload_n hx hb dX0_rightOf_0 rfl (lv_at hl 0 rfl) ?_
  refine lv_iload_n hx hb dX0_rightOf_1 rfl (lv_at hl 1 rfl) ?_
  refine zv_callRV (As := [.int (zI k)]) (rest := []) ⟨hx, hb, hml, hown, hts⟩ (c_X0_has l dC dI cI cB cZ h0 h1 h2 h3 h4 n so le ri ti k (by omega) (by omega)) (cwV 1 hts gX0_rightOf_X0_has rfl rfl rfl (by decide +kernel) ⟨by rw [← hRM]; first | decide | (dsimp only; omega), by rw [← hRM]; first | decide | (dsimp only; omega)⟩) hP hK [0, 1, 2, 3, 4] rfl [0, 1, 2] rfl zN_bl (zN_go hE) (q0 := 0) rfl rfl rfl rfl hl.1 rfl (Nat.le_of_ble_eq_true rfl) dX0_rightOf_2 ⟨Nat.zero_le _, Nat.zero_le _⟩ ?_
  refine zv_ifeq_b (tgt := 17) hx hb dX0_rightOf_5 (by decide) (fun c_5 => ?_) (fun c_5 => ?_)
  · refine zv_bipush hx hb dX0_rightOf_17 (by decide +kernel) ?_
    rw [← hQQ]
    exact zr_iret hx hb hr hlocks (congrArg zI (show (-9) = if 0 ≤ k ∧ k < n then ri k else -9 from by first | exact (if_pos c_5).symm | exact (if_neg c_5).symm)) dX0_rightOf_19
  · refine lv_aload_n hx hb dX0_rightOf_8 rfl (lv_at hl 0 rfl) ?_
    refine va_get (D := (dC, dI)) (ci := 0) (v := .ref h3) (C := RX0) (T := TX0) (N := 5) hx hb hts in_X0 hown hK hP 0 rfl rfl 3 (by decide) w_0 (fun _ h9 => h9) rfl dX0_rightOf_9 ?_
    refine lv_iload_n hx hb dX0_rightOf_12 rfl (lv_at hl 1 rfl) ?_
    refine zv_iald hx hb hK hP 3 0 rfl rfl (by omega) dX0_rightOf_13 ?_
    refine lv_goto (tgt := 19) hx hb dX0_rightOf_14 (by decide) ?_
    rw [← hQQ]
    exact zr_iret hx hb hr hlocks (congrArg zI (show ri k = if 0 ≤ k ∧ k < n then ri k else -9 from by first | exact (if_pos c_5).symm | exact (if_neg c_5).symm)) dX0_rightOf_19
set_option maxHeartbeats 4000000 in
set_option maxRecDepth 100000 in
theorem c_X0_turnOf (l : Launch) (dC : Nat → ClassId) (dI : Nat → Nat → Nat) (cI cB cZ : ClassId) (h0 : Nat) (h1 : Nat) (h2 : Nat) (h3 : Nat) (h4 : Nat) (n : Int) (so : Int → Int) (le : Int → Int) (ri : Int → Int) (ti : Int → Int) (k : Int) (hn : 0 ≤ n ∧ n ≤ 9) (hk : -2147483648 ≤ k ∧ k ≤ 2147483647) : MetR l yX0_turnOf wsX0_turnOf ({ frames := 1, cells := 0, slots := 0, locals := 21 }) (dC, dI) vwCl (zT cI cB cZ) zN [(h0, .inr (0, [.int (zI n), .ref h1, .ref h2, .ref h3, .ref h4])), (h1, .inl (cI, 9, .inl (zA so))), (h2, .inl (cI, 9, .inl (zA le))), (h3, .inl (cI, 9, .inl (zA ri))), (h4, .inl (cI, 9, .inl (zA ti)))] [.ref h0, .int (zI k)] (zI (if 0 ≤ k ∧ k < n then ti k else 0)) := by
  refine MetR.intro (cc := cX0_turnOf) (maxL := 2) (ret := (some .int)) (by decide) rfl (Nat.le_of_ble_eq_true rfl) ?_
  intro p e s m args below meth c hx hb hr hlocks hml hts hown hP hK hE ls hl
  have hown : s.vm.findClass RX0 = some m.cls := hown
  have hl : lv_has ls 2 [(0, .ref h0), (1, .int (zI k))] := hl
  generalize hRM : ({ frames := 1, cells := 0, slots := 0, locals := 21 } : Room) = RM
  generalize hQQ : MQ below (vp_Si (fun r => r = zI (if 0 ≤ k ∧ k < n then ti k else 0))) args s 0 0 (fun _ => False) = QQ
  have in_X0 : ∀ w ∈ wsX00, w ∈ wsX0_turnOf := by decide +kernel
  have w_0 := hts (.fieldLink RX0 21 "WallMarbles$House" "turns" "[I") (by decide +kernel)
  refine lv_aload_n hx hb dX0_turnOf_0 rfl (lv_at hl 0 rfl) ?_
  refine lv_iload_n hx hb dX0_turnOf_1 rfl (lv_at hl 1 rfl) ?_
  refine zv_callRV (As := [.int (zI k)]) (rest := []) ⟨hx, hb, hml, hown, hts⟩ (c_X0_has l dC dI cI cB cZ h0 h1 h2 h3 h4 n so le ri ti k (by omega) (by omega)) (cwV 1 hts gX0_turnOf_X0_has rfl rfl rfl (by decide +kernel) ⟨by rw [← hRM]; first | decide | (dsimp only; omega), by rw [← hRM]; first | decide | (dsimp only; omega)⟩) hP hK [0, 1, 2, 3, 4] rfl [0, 1, 2] rfl zN_bl (zN_go hE) (q0 := 0) rfl rfl rfl rfl hl.1 rfl (Nat.le_of_ble_eq_true rfl) dX0_turnOf_2 ⟨Nat.zero_le _, Nat.zero_le _⟩ ?_
  refine zv_ifeq_b (tgt := 17) hx hb dX0_turnOf_5 (by decide) (fun c_5 => ?_) (fun c_5 => ?_)
  · refine zv_iconst hx hb dX0_turnOf_17 ?_
    rw [← hQQ]
    exact zr_iret hx hb hr hlocks (congrArg zI (show 0 = if 0 ≤ k ∧ k < n then ti k else 0 from by first | exact (if_pos c_5).symm | exact (if_neg c_5).symm)) dX0_turnOf_18
  · refine lv_aload_n hx hb dX0_turnOf_8 rfl (lv_at hl 0 rfl) ?_
    refine va_get (D := (dC, dI)) (ci := 0) (v := .ref h4) (C := RX0) (T := TX0) (N := 5) hx hb hts in_X0 hown hK hP 0 rfl rfl 4 (by decide) w_0 (fun _ h9 => h9) rfl dX0_turnOf_9 ?_
    refine lv_iload_n hx hb dX0_turnOf_12 rfl (lv_at hl 1 rfl) ?_
    refine zv_iald hx hb hK hP 4 0 rfl rfl (by omega) dX0_turnOf_13 ?_
    refine lv_goto (tgt := 18) hx hb dX0_turnOf_14 (by decide) ?_
    rw [← hQQ]
    exact zr_iret hx hb hr hlocks (congrArg zI (show ti k = if 0 ≤ k ∧ k < n then ti k else 0 from by first | exact (if_pos c_5).symm | exact (if_neg c_5).symm)) dX0_turnOf_18
set_option maxHeartbeats 4000000 in
set_option maxRecDepth 100000 in
theorem c_X0_isLanding (l : Launch) (dC : Nat → ClassId) (dI : Nat → Nat → Nat) (cI cB cZ : ClassId) (h0 : Nat) (h1 : Nat) (h2 : Nat) (h3 : Nat) (h4 : Nat) (n : Int) (so : Int → Int) (le : Int → Int) (ri : Int → Int) (ti : Int → Int) (k : Int) (hh : hOk n so le ri ti) (hk : -2147483648 ≤ k ∧ k ≤ 2147483647) : MetR l yX0_isLanding wsX0_isLanding ({ frames := 1, cells := 0, slots := 0, locals := 21 }) (dC, dI) vwCl (zT cI cB cZ) zN [(h0, .inr (0, [.int (zI n), .ref h1, .ref h2, .ref h3, .ref h4])), (h1, .inl (cI, 9, .inl (zA so))), (h2, .inl (cI, 9, .inl (zA le))), (h3, .inl (cI, 9, .inl (zA ri))), (h4, .inl (cI, 9, .inl (zA ti)))] [.ref h0, .int (zI k)] (zI (bZ ((0 ≤ k ∧ k < n) ∧ so k = 0))) := by
  refine MetR.intro (cc := cX0_isLanding) (maxL := 2) (ret := (some .boolean)) (by decide) rfl (Nat.le_of_ble_eq_true rfl) ?_
  intro p e s m args below meth c hx hb hr hlocks hml hts hown hP hK hE ls hl
  have hown : s.vm.findClass RX0 = some m.cls := hown
  have hl : lv_has ls 2 [(0, .ref h0), (1, .int (zI k))] := hl
  generalize hRM : ({ frames := 1, cells := 0, slots := 0, locals := 21 } : Room) = RM
  generalize hQQ : MQ below (vp_Si (fun r => r = zI (bZ ((0 ≤ k ∧ k < n) ∧ so k = 0)))) args s 0 0 (fun _ => False) = QQ
  have in_X0 : ∀ w ∈ wsX00, w ∈ wsX0_isLanding := by decide +kernel
  have w_0 := hts (.fieldLink RX0 9 "WallMarbles$House" "sorts" "[I") (by decide +kernel)
  have hn := hh.1
  refine lv_aload_n hx hb dX0_isLanding_0 rfl (lv_at hl 0 rfl) ?_
  refine lv_iload_n hx hb dX0_isLanding_1 rfl (lv_at hl 1 rfl) ?_
  refine zv_callRV (As := [.int (zI k)]) (rest := []) ⟨hx, hb, hml, hown, hts⟩ (c_X0_has l dC dI cI cB cZ h0 h1 h2 h3 h4 n so le ri ti k (by omega) (by omega)) (cwV 1 hts gX0_isLanding_X0_has rfl rfl rfl (by decide +kernel) ⟨by rw [← hRM]; first | decide | (dsimp only; omega), by rw [← hRM]; first | decide | (dsimp only; omega)⟩) hP hK [0, 1, 2, 3, 4] rfl [0, 1, 2] rfl zN_bl (zN_go hE) (q0 := 0) rfl rfl rfl rfl hl.1 rfl (Nat.le_of_ble_eq_true rfl) dX0_isLanding_2 ⟨Nat.zero_le _, Nat.zero_le _⟩ ?_
  refine zv_ifeq_b (tgt := 21) hx hb dX0_isLanding_5 (by decide) (fun c_5 => ?_) (fun c_5 => ?_)
  · refine zv_iconst hx hb dX0_isLanding_21 ?_
    rw [← hQQ]
    exact zr_zret hx hb hr hlocks (by first | exact z_nar_bool | rfl) (congrArg zI (show 0 = bZ ((0 ≤ k ∧ k < n) ∧ so k = 0) from by first | rfl | omega | exact (bZ_t (by omega)).symm | exact (bZ_f (by omega)).symm)) dX0_isLanding_22
  · refine lv_aload_n hx hb dX0_isLanding_8 rfl (lv_at hl 0 rfl) ?_
    refine va_get (D := (dC, dI)) (ci := 0) (v := .ref h1) (C := RX0) (T := TX0) (N := 5) hx hb hts in_X0 hown hK hP 0 rfl rfl 1 (by decide) w_0 (fun _ h9 => h9) rfl dX0_isLanding_9 ?_
    refine lv_iload_n hx hb dX0_isLanding_12 rfl (lv_at hl 1 rfl) ?_
    refine zv_iald hx hb hK hP 1 0 rfl rfl (by omega) dX0_isLanding_13 ?_
    have z1 := hh.2 k c_5.1 c_5.2
    refine zv_if_ne (tgt := 21) hx hb (by omega) dX0_isLanding_14 (by decide) (fun c_14 => ?_) (fun c_14 => ?_)
    · refine zv_iconst hx hb dX0_isLanding_21 ?_
      rw [← hQQ]
      exact zr_zret hx hb hr hlocks (by first | exact z_nar_bool | rfl) (congrArg zI (show 0 = bZ ((0 ≤ k ∧ k < n) ∧ so k = 0) from by first | rfl | omega | exact (bZ_t (by omega)).symm | exact (bZ_f (by omega)).symm)) dX0_isLanding_22
    · refine zv_iconst hx hb dX0_isLanding_17 ?_
      refine lv_goto (tgt := 22) hx hb dX0_isLanding_18 (by decide) ?_
      rw [← hQQ]
      exact zr_zret hx hb hr hlocks (by first | exact z_nar_bool | rfl) (congrArg zI (show 1 = bZ ((0 ≤ k ∧ k < n) ∧ so k = 0) from by first | rfl | omega | exact (bZ_t (by omega)).symm | exact (bZ_f (by omega)).symm)) dX0_isLanding_22
