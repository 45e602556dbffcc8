set_option maxHeartbeats 4000000 in
set_option maxRecDepth 100000 in
theorem c_X5_shortest (l : Launch) (dC : Nat → ClassId) (dI : Nat → Nat → Nat) (cI cB cZ : ClassId) (w0 : Nat) (x0 : Nat) (h0 : Nat) (g0 : Nat) (p0 : Nat) (q0 : Nat) (r0 : Nat) (fk : Int) (sk : Int) (t0 : Nat) (b1 : Nat) (b2 : Nat) (tr : Int64) (h1 : Nat) (h2 : Nat) (h3 : Nat) (h4 : Nat) (n : Int) (so : Int → Int) (le : Int → Int) (ri : Int → Int) (ti : Int → Int) (p1 : Nat) (p2 : Nat) (st : Int → Int) (lo : Int) (li : Int) (kn : Int) (al : Int → Int) (ah : Int → Int) (v : Int) (hh : hOk n so le ri ti) (hs : sOk n so ti st) (hlo : -9 ≤ lo ∧ lo ≤ 8) (hv : -2147483648 ≤ v ∧ v ≤ 2147483647) : MetR l yX5_shortest wsX5_shortest ({ frames := 12, cells := 0, slots := 0, locals := 342 }) (dC, dI) vwCl (zT cI cB cZ) zN [(w0, .inr (4, [.ref x0, .ref h0, .ref g0, .ref p0, .ref q0, .ref r0, .int (zI fk), .int (zI sk), .ref t0, .ref b1, .ref b2, .long tr])), (h0, .inr (0, [.int (zI n), .ref h1, .ref h2, .ref h3, .ref h4])), (h1, .inl (cI, 9, .inl (zA so))), (h2, .inl (cI, 9, .inl (zA le))), (h3, .inl (cI, 9, .inl (zA ri))), (h4, .inl (cI, 9, .inl (zA ti))), (p0, .inr (1, [.int (zI (pk st)), .int (zI lo), .int (zI li), .int (zI kn), .ref p1, .ref p2])), (p1, .inl (cI, 9, .inl (zA al))), (p2, .inl (cI, 20, .inl (zA ah)))] [.ref w0, .int (zI v)] (zI (q_short so le ri ti lo n st v)) := by
  refine MetR.intro (cc := cX5_shortest) (maxL := 5) (ret := (some .int)) (by decide) rfl (Nat.le_of_ble_eq_true rfl) ?_
  intro p e s m args below meth c hx hb hr hlocks hml hts hown hP hK hE ls hl
  have hown : s.vm.findClass RX5 = some m.cls := hown
  have hl : lv_has ls 5 [(0, .ref w0), (1, .int (zI v))] := hl
  generalize hRM : ({ frames := 12, cells := 0, slots := 0, locals := 342 } : Room) = RM
  generalize hQQ : MQ below (vp_Si (fun r => r = zI (q_short so le ri ti lo n st v))) args s 0 0 (fun _ => False) = QQ
  have in_X0 : ∀ w ∈ wsX00, w ∈ wsX5_shortest := by decide +kernel
  have in_X1 : ∀ w ∈ wsX10, w ∈ wsX5_shortest := by decide +kernel
  have in_X5 : ∀ w ∈ wsX50, w ∈ wsX5_shortest := by decide +kernel
  have w_0 := hts (.fieldLink RX5 29 "WallMarbles" "present" "LWallMarbles$Present;") (by decide +kernel)
  have w_1 := hts (.fieldLink RX5 19 "WallMarbles" "built" "LWallMarbles$House;") (by decide +kernel)
  have n_98 := va_Nw.use (A := args) rfl (zN_3 hE)
  have n_78 := va_Nw.use (A := args) rfl (zN_2 hE)
  have hn := hh.1
  have h7 := sOk_s7 hh hs
  have cut30 : ∀ (nM : Nat) (j : Int),  ((10 - j).toNat) < nM → (0 ≤ j ∧ j ≤ 10) → (1 ≤ n) → (wlOk (rw v)) → (q_short so le ri ti lo n st v = shS so le ri ti lo n st (rw v) (10 - j).toNat j) → ∀ ls : Array Slot, lv_has ls 5 [(0, .ref w0), (2, .int (zI (vl (rw v)))), (3, .int (zI j))] → W p l e RM s m args below meth c s.heap [] 0 0 QQ (F0 m 30 ls []) := by
    intro nM
    induction nM with
    | zero => intro j hmu; exact absurd hmu (Nat.not_lt_zero _)
    | succ nM ih30 =>
      intro j hmu hj hn1 hw hres ls hl
      refine lv_iload_n hx hb dX5_shortest_30 rfl (lv_at hl 2 rfl) ?_
      refine zv_bipush hx hb dX5_shortest_31 (by decide +kernel) ?_
      refine zv_icmp_gt (tgt := 68) hx hb (by omega) (by omega) dX5_shortest_33 (by decide) (fun c_33 => ?_) (fun c_33 => ?_)
      · refine zv_bipush hx hb dX5_shortest_68 (by decide +kernel) ?_
        rw [← hQQ]
        exact zr_iret hx hb hr hlocks (congrArg zI (show (-9) = q_short so le ri ti lo n st v from by rw [hres, show (10 - j).toNat = 0 by omega]; rfl)) dX5_shortest_70
      · have hr2 := roS_rng (so := so) (le := le) (ri := ri) (ti := ti) (lo := lo) (n := n) j.toNat st (rw v) 0 (ro_0 (by omega))
        refine lv_aload_n hx hb dX5_shortest_36 rfl (lv_at hl 0 rfl) ?_
        refine lv_iload_n hx hb dX5_shortest_37 rfl (lv_at hl 2 rfl) ?_
        refine lv_aload_n hx hb dX5_shortest_38 rfl (lv_at hl 0 rfl) ?_
        refine va_get (D := (dC, dI)) (ci := 4) (v := .ref p0) (C := RX5) (T := TX5) (N := 12) hx hb hts in_X5 hown hK hP 0 rfl rfl 3 (by decide) w_0 (fun _ h9 => h9) rfl dX5_shortest_39 ?_
        refine va_getN (D := (dC, dI)) (ci := 1) (v := .int (zI (pk st))) (C := RX1) (T := TX1) (N := 6) hx hb hts in_X1 hown hK hP 6 rfl rfl 0 (by decide) n_98 (fun _ h9 => h9) rfl dX5_shortest_42 ?_
        refine lv_iload_n hx hb dX5_shortest_45 rfl (lv_at hl 1 rfl) ?_
        refine zv_iconst hx hb dX5_shortest_46 ?_
        refine zv_callRV (As := [.int (zI j), .int (zI (pk st)), .int (zI (vl (rw v))), .int (zI 0)]) (rest := []) ⟨hx, hb, hml, hown, hts⟩ (c_X5_rowOf l dC dI cI cB cZ w0 x0 h0 g0 p0 q0 r0 fk sk t0 b1 b2 tr h1 h2 h3 h4 n so le ri ti p1 p2 st lo li kn j st (rw v) 0 (by exact hh) (by omega) (by omega) (by omega) (by exact hs) (by exact hw) (by exact ro_0 (by omega))) (cwV 4 hts gX5_shortest_X5_rowOf rfl rfl rfl (by decide +kernel) ⟨by rw [← hRM]; first | decide | (dsimp only; omega), by rw [← hRM]; first | decide | (dsimp only; omega)⟩) hP hK [0, 1, 2, 3, 4, 5, 6] rfl [0, 1, 2] rfl zN_bl (zN_go hE) (q0 := 0) rfl rfl rfl rfl hl.1 rfl (Nat.le_of_ble_eq_true rfl) dX5_shortest_47 ⟨Nat.zero_le _, Nat.zero_le _⟩ ?_
        refine lv_istore (lv' := [(4, .int (zI (roS so le ri ti lo n j.toNat st (rw v) 0))), (0, .ref w0), (2, .int (zI (vl (rw v)))), (3, .int (zI j))]) hx hb dX5_shortest_50 hl (by decide) rfl (fun ls hl => ?_)
        refine lv_iload hx hb dX5_shortest_52 (lv_at hl 0 rfl) ?_
        refine zv_bipush hx hb dX5_shortest_54 (by decide +kernel) ?_
        refine zv_icmp_eq (tgt := 62) hx hb (by omega) (by omega) dX5_shortest_56 (by decide) (fun c_56 => ?_) (fun c_56 => ?_)
        · refine zv_iinc (k := 3) (a := j) (n := 1) (lv' := [(3, .int (zI (j + 1))), (4, .int (zI (roS so le ri ti lo n j.toNat st (rw v) 0))), (0, .ref w0), (2, .int (zI (vl (rw v))))]) hx hb dX5_shortest_62 hl rfl (by decide) rfl (fun ls hl => ?_)
          refine lv_goto (tgt := 30) hx hb dX5_shortest_65 (by decide) ?_
          exact ih30 (j + 1) (by omega) (by omega) (by omega) (by exact hw) (by rw [hres, shS_s (by omega), if_pos c_56]) _ (lv_sub hl [2, 3, 0] rfl)
        · refine lv_iload hx hb dX5_shortest_59 (lv_at hl 0 rfl) ?_
          rw [← hQQ]
          exact zr_iret hx hb hr hlocks (congrArg zI (show roS so le ri ti lo n j.toNat st (rw v) 0 = q_short so le ri ti lo n st v from by rw [hres, shS_s (by omega), if_neg c_56])) dX5_shortest_61
  refine lv_aload_n hx hb dX5_shortest_0 rfl (lv_at hl 0 rfl) ?_
  refine lv_iload_n hx hb dX5_shortest_1 rfl (lv_at hl 1 rfl) ?_
  refine zv_callRV (As := [.int (zI v)]) (rest := []) ⟨hx, hb, hml, hown, hts⟩ (c_X5_areLandings l dC dI cI cB cZ w0 x0 h0 g0 p0 q0 r0 fk sk t0 b1 b2 tr h1 h2 h3 h4 n so le ri ti v (by exact hh) (by omega)) (cwV 1 hts gX5_shortest_X5_areLandings rfl rfl rfl (by decide +kernel) ⟨by rw [← hRM]; first | decide | (dsimp only; omega), by rw [← hRM]; first | decide | (dsimp only; omega)⟩) hP hK [0, 1, 2, 3, 4, 5] rfl [0, 1, 2] rfl zN_bl (zN_go hE) (q0 := 0) rfl rfl rfl rfl hl.1 rfl (Nat.le_of_ble_eq_true rfl) dX5_shortest_2 ⟨Nat.zero_le _, Nat.zero_le _⟩ ?_
  refine zv_ifne_b (tgt := 10) hx hb dX5_shortest_5 (by decide) (fun c_5 => ?_) (fun c_5 => ?_)
  · refine lv_aload_n hx hb dX5_shortest_10 rfl (lv_at hl 0 rfl) ?_
    refine va_get (D := (dC, dI)) (ci := 4) (v := .ref h0) (C := RX5) (T := TX5) (N := 12) hx hb hts in_X5 hown hK hP 0 rfl rfl 1 (by decide) w_1 (fun _ h9 => h9) rfl dX5_shortest_11 ?_
    refine va_getN (D := (dC, dI)) (ci := 0) (v := .int (zI n)) (C := RX0) (T := TX0) (N := 5) hx hb hts in_X0 hown hK hP 1 rfl rfl 0 (by decide) n_78 (fun _ h9 => h9) rfl dX5_shortest_14 ?_
    refine zv_if_ne (tgt := 23) hx hb (by omega) dX5_shortest_17 (by decide) (fun c_17 => ?_) (fun c_17 => ?_)
    · refine lv_iload_n hx hb dX5_shortest_23 rfl (lv_at hl 1 rfl) ?_
      refine zv_callRS (As := [.int (zI v)]) (rest := []) ⟨hx, hb, hml, hown, hts⟩ (c_X5_turned l dC dI cI cB cZ v (by have := lanB_rng c_5; omega)) (va_cwS 1 hts gX5_shortest_X5_turned rfl rfl rfl (by decide +kernel) ⟨by rw [← hRM]; first | decide | (dsimp only; omega), by rw [← hRM]; first | decide | (dsimp only; omega)⟩) hP hK [] rfl [0, 1, 2] rfl zN_bl (zN_go hE) rfl hl.1 rfl (Nat.le_of_ble_eq_true rfl) dX5_shortest_24 ⟨Nat.zero_le _, Nat.zero_le _⟩ ?_
      refine lv_istore_n (lv' := [(2, .int (zI (vl (rw v)))), (0, .ref w0), (1, .int (zI v))]) hx hb dX5_shortest_27 rfl hl (by decide) rfl (fun ls hl => ?_)
      refine zv_iconst hx hb dX5_shortest_28 ?_
      refine lv_istore_n (lv' := [(3, .int (zI 0)), (2, .int (zI (vl (rw v)))), (0, .ref w0), (1, .int (zI v))]) hx hb dX5_shortest_29 rfl hl (by decide) rfl (fun ls hl => ?_)
      exact cut30 _ 0 (Nat.lt_succ_self _) (by omega) (by omega) (by exact wl_of_lan hh c_5) (by unfold q_short; rw [if_pos c_5, if_neg (by omega), show ((10 : Int) - 0).toNat = 10 by omega]) _ (lv_sub hl [2, 1, 0] rfl)
    · refine zv_bipush hx hb dX5_shortest_20 (by decide +kernel) ?_
      rw [← hQQ]
      exact zr_iret hx hb hr hlocks (congrArg zI (show (-2) = q_short so le ri ti lo n st v from by unfold q_short; rw [if_pos c_5, if_pos (by omega)])) dX5_shortest_22
  · refine zv_iconst hx hb dX5_shortest_8 ?_
    rw [← hQQ]
    exact zr_iret hx hb hr hlocks (congrArg zI (show (-1) = q_short so le ri ti lo n st v from by unfold q_short; rw [if_neg c_5])) dX5_shortest_9
