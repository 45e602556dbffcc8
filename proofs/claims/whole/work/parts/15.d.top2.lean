set_option maxHeartbeats 4000000 in
set_option maxRecDepth 100000 in
theorem c_X5_round (l : Launch) (dC : Nat → ClassId) (dI : Nat → Nat → Nat) (cI cB cZ : ClassId) (w0 : Nat) (x0 : Nat) (h0 : Nat) (g0 : Nat) (p0 : Nat) (q0 : Nat) (r0 : Nat) (fk : Int) (sk : Int) (t0 : Nat) (b1 : Nat) (b2 : Nat) (tr : Int64) (h1 : Nat) (h2 : Nat) (h3 : Nat) (h4 : Nat) (n : Int) (so : Int → Int) (le : Int → Int) (ri : Int → Int) (ti : Int → Int) (p1 : Nat) (p2 : Nat) (st : Int → Int) (lo : Int) (li : Int) (kn : Int) (al : Int → Int) (ah : Int → Int) (sz : Int) (hh : hOk n so le ri ti) (hs : sOk n so ti st) (hlo : -9 ≤ lo ∧ lo ≤ 8) (hsz : -2147483648 ≤ sz ∧ sz ≤ 2147483647) : MetR l yX5_round wsX5_round ({ frames := 3, cells := 0, slots := 0, locals := 75 }) (dC, dI) vwCl (zT cI cB cZ) zN [(w0, .inr (4, [.ref x0, .ref h0, .ref g0, .ref p0, .ref q0, .ref r0, .int (zI fk), .int (zI sk), .ref t0, .ref b1, .ref b2, .long tr])), (h0, .inr (0, [.int (zI n), .ref h1, .ref h2, .ref h3, .ref h4])), (h1, .inl (cI, 9, .inl (zA so))), (h2, .inl (cI, 9, .inl (zA le))), (h3, .inl (cI, 9, .inl (zA ri))), (h4, .inl (cI, 9, .inl (zA ti))), (p0, .inr (1, [.int (zI (pk st)), .int (zI lo), .int (zI li), .int (zI kn), .ref p1, .ref p2])), (p1, .inl (cI, 9, .inl (zA al))), (p2, .inl (cI, 20, .inl (zA ah)))] [.ref w0, .int (zI sz)] (zI (q_round so le ri ti lo n st sz)) := by
  refine MetR.intro (cc := cX5_round) (maxL := 4) (ret := (some .int)) (by decide) rfl (Nat.le_of_ble_eq_true rfl) ?_
  intro p e s m args below meth c hx hb hr hlocks hml hts hown hP hK hE ls hl
  have hown : s.vm.findClass RX5 = some m.cls := hown
  have hl : lv_has ls 4 [(0, .ref w0), (1, .int (zI sz))] := hl
  generalize hRM : ({ frames := 3, cells := 0, slots := 0, locals := 75 } : Room) = RM
  generalize hQQ : MQ below (vp_Si (fun r => r = zI (q_round so le ri ti lo n st sz))) args s 0 0 (fun _ => False) = QQ
  have in_X0 : ∀ w ∈ wsX00, w ∈ wsX5_round := by decide +kernel
  have in_X1 : ∀ w ∈ wsX10, w ∈ wsX5_round := by decide +kernel
  have in_X5 : ∀ w ∈ wsX50, w ∈ wsX5_round := by decide +kernel
  have w_0 := hts (.fieldLink RX5 19 "WallMarbles" "built" "LWallMarbles$House;") (by decide +kernel)
  have w_1 := hts (.fieldLink RX5 29 "WallMarbles" "present" "LWallMarbles$Present;") (by decide +kernel)
  have n_116 := va_Nw.use (A := args) rfl (zN_4 hE)
  have n_98 := va_Nw.use (A := args) rfl (zN_3 hE)
  have n_78 := va_Nw.use (A := args) rfl (zN_2 hE)
  have hn := hh.1
  have h7 := sOk_s7 hh hs
  have r7 := pk_rng h7
  have cut32 : ∀ (nM : Nat) (su : Int → Int) (j : Int),  ((501 - j).toNat) < nM → (1 ≤ j ∧ j ≤ 501) → (1 ≤ n) → (sz = 0 ∨ sz = 1) → (sOk n so ti su) → (q_round so le ri ti lo n st sz = ruS so le ri ti lo n st sz (501 - j).toNat j su) → ∀ ls : Array Slot, lv_has ls 4 [(0, .ref w0), (1, .int (zI sz)), (2, .int (zI (pk su))), (3, .int (zI j))] → W p l e RM s m args below meth c s.heap [] 0 0 QQ (F0 m 32 ls []) := by
    intro nM
    induction nM with
    | zero => intro su j hmu; exact absurd hmu (Nat.not_lt_zero _)
    | succ nM ih32 =>
      intro su j hmu hj hn1 hz hso hres ls hl
      refine lv_iload_n hx hb dX5_round_32 rfl (lv_at hl 3 rfl) ?_
      refine zv_sipush hx hb dX5_round_33 (by decide +kernel) ?_
      refine zv_icmp_gt (tgt := 75) hx hb (by omega) (by omega) dX5_round_36 (by decide) (fun c_36 => ?_) (fun c_36 => ?_)
      · refine zv_bipush hx hb dX5_round_75 (by decide +kernel) ?_
        rw [← hQQ]
        exact zr_iret hx hb hr hlocks (congrArg zI (show (-9) = q_round so le ri ti lo n st sz from by rw [hres, show (501 - j).toNat = 0 by omega]; rfl)) dX5_round_77
      · obtain ⟨g1, g2⟩ := goS_ok hh lo sz 9 su (n - 1) (by omega) (by omega) hso
        have r8 := pk_rng (sOk_s7 hh g1)
        refine lv_aload_n hx hb dX5_round_39 rfl (lv_at hl 0 rfl) ?_
        refine va_get (D := (dC, dI)) (ci := 4) (v := .ref h0) (C := RX5) (T := TX5) (N := 12) hx hb hts in_X5 hown hK hP 0 rfl rfl 1 (by decide) w_0 (fun _ h9 => h9) rfl dX5_round_40 ?_
        refine lv_iload_n hx hb dX5_round_43 rfl (lv_at hl 2 rfl) ?_
        refine lv_iload_n hx hb dX5_round_44 rfl (lv_at hl 1 rfl) ?_
        refine lv_aload_n hx hb dX5_round_45 rfl (lv_at hl 0 rfl) ?_
        refine va_get (D := (dC, dI)) (ci := 4) (v := .ref p0) (C := RX5) (T := TX5) (N := 12) hx hb hts in_X5 hown hK hP 0 rfl rfl 3 (by decide) w_1 (fun _ h9 => h9) rfl dX5_round_46 ?_
        refine va_getN (D := (dC, dI)) (ci := 1) (v := .int (zI lo)) (C := RX1) (T := TX1) (N := 6) hx hb hts in_X1 hown hK hP 6 rfl rfl 1 (by decide) n_116 (fun _ h9 => h9) rfl dX5_round_49 ?_
        refine zv_callRV (As := [.int (zI (pk su)), .int (zI sz), .int (zI lo)]) (rest := []) ⟨hx, hb, hml, hown, hts⟩ (c_X0_standingAfter l dC dI cI cB cZ h0 h1 h2 h3 h4 n so le ri ti su sz lo (by exact hh) (by omega) (by exact hso) (by omega) (by omega)) (cwV 3 hts gX5_round_X0_standingAfter rfl rfl rfl (by decide +kernel) ⟨by rw [← hRM]; first | decide | (dsimp only; omega), by rw [← hRM]; first | decide | (dsimp only; omega)⟩) hP hK [1, 2, 3, 4, 5] rfl [0, 1, 2] rfl zN_bl (zN_go hE) (q0 := 0) rfl rfl rfl rfl hl.1 rfl (Nat.le_of_ble_eq_true rfl) dX5_round_52 ⟨Nat.zero_le _, Nat.zero_le _⟩ ?_
        refine lv_istore_n (lv' := [(2, .int (zI (pk (goS so le ri ti lo sz 9 su (n - 1)).1))), (0, .ref w0), (1, .int (zI sz)), (3, .int (zI j))]) hx hb dX5_round_55 rfl hl (by decide) rfl (fun ls hl => ?_)
        refine lv_iload_n hx hb dX5_round_56 rfl (lv_at hl 0 rfl) ?_
        refine lv_aload_n hx hb dX5_round_57 rfl (lv_at hl 1 rfl) ?_
        refine va_get (D := (dC, dI)) (ci := 4) (v := .ref p0) (C := RX5) (T := TX5) (N := 12) hx hb hts in_X5 hown hK hP 0 rfl rfl 3 (by decide) w_1 (fun _ h9 => h9) rfl dX5_round_58 ?_
        refine va_getN (D := (dC, dI)) (ci := 1) (v := .int (zI (pk st))) (C := RX1) (T := TX1) (N := 6) hx hb hts in_X1 hown hK hP 6 rfl rfl 0 (by decide) n_98 (fun _ h9 => h9) rfl dX5_round_61 ?_
        refine zv_icmp_ne (tgt := 69) hx hb (by omega) (by omega) dX5_round_64 (by decide) (fun c_64 => ?_) (fun c_64 => ?_)
        · refine zv_iinc (k := 3) (a := j) (n := 1) (lv' := [(3, .int (zI (j + 1))), (2, .int (zI (pk (goS so le ri ti lo sz 9 su (n - 1)).1))), (0, .ref w0), (1, .int (zI sz))]) hx hb dX5_round_69 hl rfl (by decide) rfl (fun ls hl => ?_)
          refine lv_goto (tgt := 32) hx hb dX5_round_72 (by decide) ?_
          exact ih32 ((goS so le ri ti lo sz 9 su (n - 1)).1) (j + 1) (by omega) (by omega) (by omega) (by omega) (by exact g1) (by rw [hres, ruS_s (by omega), if_neg c_64]) _ (lv_sub hl [2, 3, 1, 0] rfl)
        · refine lv_iload_n hx hb dX5_round_67 rfl (lv_at hl 3 rfl) ?_
          rw [← hQQ]
          exact zr_iret hx hb hr hlocks (congrArg zI (show j = q_round so le ri ti lo n st sz from by rw [hres, ruS_s (by omega), if_pos c_64])) dX5_round_68
  refine lv_iload_n hx hb dX5_round_0 rfl (lv_at hl 1 rfl) ?_
  refine zv_callRS (As := [.int (zI sz)]) (rest := []) ⟨hx, hb, hml, hown, hts⟩ (c_X5_isSize l dC dI cI cB cZ sz (by omega)) (va_cwS 1 hts gX5_round_X5_isSize rfl rfl rfl (by decide +kernel) ⟨by rw [← hRM]; first | decide | (dsimp only; omega), by rw [← hRM]; first | decide | (dsimp only; omega)⟩) hP hK [] rfl [0, 1, 2] rfl zN_bl (zN_go hE) rfl hl.1 rfl (Nat.le_of_ble_eq_true rfl) dX5_round_1 ⟨Nat.zero_le _, Nat.zero_le _⟩ ?_
  refine zv_ifne_b (tgt := 9) hx hb dX5_round_4 (by decide) (fun c_4 => ?_) (fun c_4 => ?_)
  · refine lv_aload_n hx hb dX5_round_9 rfl (lv_at hl 0 rfl) ?_
    refine va_get (D := (dC, dI)) (ci := 4) (v := .ref h0) (C := RX5) (T := TX5) (N := 12) hx hb hts in_X5 hown hK hP 0 rfl rfl 1 (by decide) w_0 (fun _ h9 => h9) rfl dX5_round_10 ?_
    refine va_getN (D := (dC, dI)) (ci := 0) (v := .int (zI n)) (C := RX0) (T := TX0) (N := 5) hx hb hts in_X0 hown hK hP 1 rfl rfl 0 (by decide) n_78 (fun _ h9 => h9) rfl dX5_round_13 ?_
    refine zv_if_ne (tgt := 22) hx hb (by omega) dX5_round_16 (by decide) (fun c_16 => ?_) (fun c_16 => ?_)
    · refine lv_aload_n hx hb dX5_round_22 rfl (lv_at hl 0 rfl) ?_
      refine va_get (D := (dC, dI)) (ci := 4) (v := .ref p0) (C := RX5) (T := TX5) (N := 12) hx hb hts in_X5 hown hK hP 0 rfl rfl 3 (by decide) w_1 (fun _ h9 => h9) rfl dX5_round_23 ?_
      refine va_getN (D := (dC, dI)) (ci := 1) (v := .int (zI (pk st))) (C := RX1) (T := TX1) (N := 6) hx hb hts in_X1 hown hK hP 6 rfl rfl 0 (by decide) n_98 (fun _ h9 => h9) rfl dX5_round_26 ?_
      refine lv_istore_n (lv' := [(2, .int (zI (pk st))), (0, .ref w0), (1, .int (zI sz))]) hx hb dX5_round_29 rfl hl (by decide) rfl (fun ls hl => ?_)
      refine zv_iconst hx hb dX5_round_30 ?_
      refine lv_istore_n (lv' := [(3, .int (zI 1)), (2, .int (zI (pk st))), (0, .ref w0), (1, .int (zI sz))]) hx hb dX5_round_31 rfl hl (by decide) rfl (fun ls hl => ?_)
      exact cut32 _ st 1 (Nat.lt_succ_self _) (by omega) (by omega) (by omega) (by exact hs) (by unfold q_round; rw [if_pos c_4, if_neg (by omega), show ((501 : Int) - 1).toNat = 500 by omega]) _ (lv_sub hl [2, 3, 1, 0] rfl)
    · refine zv_bipush hx hb dX5_round_19 (by decide +kernel) ?_
      rw [← hQQ]
      exact zr_iret hx hb hr hlocks (congrArg zI (show (-2) = q_round so le ri ti lo n st sz from by unfold q_round; rw [if_pos c_4, if_pos (by omega)])) dX5_round_21
  · refine zv_iconst hx hb dX5_round_7 ?_
    rw [← hQQ]
    exact zr_iret hx hb hr hlocks (congrArg zI (show (-1) = q_round so le ri ti lo n st sz from by unfold q_round; rw [if_neg c_4])) dX5_round_8
