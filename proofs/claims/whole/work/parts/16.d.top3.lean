set_option maxHeartbeats 4000000 in
set_option maxRecDepth 100000 in
theorem c_X5_trial (l : Launch) (dC : Nat → ClassId) (dI : Nat → Nat → Nat) (cI cB cZ : ClassId) (w0 : Nat) (x0 : Nat) (h0 : Nat) (g0 : Nat) (p0 : Nat) (q0 : Nat) (r0 : Nat) (fk : Int) (sk : Int) (t0 : Nat) (b1 : Nat) (b2 : Nat) (tr : Int64) (h1 : Nat) (h2 : Nat) (h3 : Nat) (h4 : Nat) (n : Int) (so : Int → Int) (le : Int → Int) (ri : Int → Int) (ti : Int → Int) (t1 : Nat) (t2 : Nat) (tn : Int) (ts : Int → Int) (tc : Int → Int) (gp : Int → Int) (w : Int) (hh : hOk n so le ri ti) (htn : 0 ≤ tn ∧ tn ≤ 9) (htz : ∀ j : Int, 0 ≤ j → j < tn → ts j = 0 ∨ ts j = 1) (htc : ∀ j : Int, 0 ≤ j → j < tn → -9 ≤ tc j ∧ tc j ≤ 8) (hwr : -2147483648 ≤ w ∧ w ≤ 2147483647) : MetW (S := (Int → Int)) l yX5_trial wsX5_trial ({ frames := 4, cells := 0, slots := 0, locals := 103 }) (dC, dI) vwCl (zT cI cB cZ) zN [(w0, .inr (4, [.ref x0, .ref h0, .ref g0, .ref p0, .ref q0, .ref r0, .int (zI fk), .int (zI sk), .ref t0, .ref b1, .ref b2, .long tr])), (h0, .inr (0, [.int (zI n), .ref h1, .ref h2, .ref h3, .ref h4])), (h1, .inl (cI, 9, .inl (zA so))), (h2, .inl (cI, 9, .inl (zA le))), (h3, .inl (cI, 9, .inl (zA ri))), (h4, .inl (cI, 9, .inl (zA ti))), (t0, .inr (3, [.int (zI tn), .ref t1, .ref t2])), (t1, .inl (cI, 9, .inl (zA ts))), (t2, .inl (cI, 9, .inl (zA tc))), (b2, .inl (cI, 10, .inl (zA gp)))] [.ref w0, .int (zI w)] (fun u => some (.int (zI (q_trial so le ri ti n ts tc tn w)))) (fun u => [(w0, .inr (4, [.ref x0, .ref h0, .ref g0, .ref p0, .ref q0, .ref r0, .int (zI fk), .int (zI sk), .ref t0, .ref b1, .ref b2, .long tr])), (h0, .inr (0, [.int (zI n), .ref h1, .ref h2, .ref h3, .ref h4])), (h1, .inl (cI, 9, .inl (zA so))), (h2, .inl (cI, 9, .inl (zA le))), (h3, .inl (cI, 9, .inl (zA ri))), (h4, .inl (cI, 9, .inl (zA ti))), (t0, .inr (3, [.int (zI tn), .ref t1, .ref t2])), (t1, .inl (cI, 9, .inl (zA ts))), (t2, .inl (cI, 9, .inl (zA tc))), (b2, .inl (cI, 10, .inl (zA u)))]) (fun u => True) := by
  refine MetW.intro (cc := cX5_trial) (maxL := 4) (ret := (some .int)) (by decide) rfl (Nat.le_of_ble_eq_true rfl) ?_
  intro p e s m args below meth c A hx hb hr hlocks hml hts hown hP hK hD hS hA hE ls hl
  have hown : s.vm.findClass RX5 = some m.cls := hown
  have hl : lv_has ls 4 [(0, .ref w0), (1, .int (zI w))] := hl
  generalize hRM : ({ frames := 4, cells := 0, slots := 0, locals := 103 } : Room) = RM
  generalize hQQ : MQ below (QW (S := (Int → Int)) (dC, dI) vwCl A (fun u => some (.int (zI (q_trial so le ri ti n ts tc tn w)))) (fun u => [(w0, .inr (4, [.ref x0, .ref h0, .ref g0, .ref p0, .ref q0, .ref r0, .int (zI fk), .int (zI sk), .ref t0, .ref b1, .ref b2, .long tr])), (h0, .inr (0, [.int (zI n), .ref h1, .ref h2, .ref h3, .ref h4])), (h1, .inl (cI, 9, .inl (zA so))), (h2, .inl (cI, 9, .inl (zA le))), (h3, .inl (cI, 9, .inl (zA ri))), (h4, .inl (cI, 9, .inl (zA ti))), (t0, .inr (3, [.int (zI tn), .ref t1, .ref t2])), (t1, .inl (cI, 9, .inl (zA ts))), (t2, .inl (cI, 9, .inl (zA tc))), (b2, .inl (cI, 10, .inl (zA u)))]) (fun u => True)) args s 0 0 A = QQ
  have in_X0 : ∀ w ∈ wsX00, w ∈ wsX5_trial := by decide +kernel
  have in_X5 : ∀ w ∈ wsX50, w ∈ wsX5_trial := by decide +kernel
  have w_0 := hts (.fieldLink RX5 19 "WallMarbles" "built" "LWallMarbles$House;") (by decide +kernel)
  have w_1 := hts (.methodLink RX5 190 Lib.Math.min.name) (by decide +kernel)
  have w_2 := hts (.static Lib.Math.min.name) (by decide +kernel)
  have w_3 := hts (.initialized "java/lang/Math") (by decide +kernel)
  have w_4 := hts (.code Lib.Math.min.name Lib.Math.min.code 2 (some .int)) (by decide +kernel)
  have n_78 := va_Nw.use (A := args) rfl (zN_2 hE)
  have hn := hh.1
  have b0 := gwS_b so le ri ti n ts tc tn 0 10
  have b1_ := gwS_b so le ri ti n ts tc tn 1 10
  refine lv_iload_n hx hb dX5_trial_0 rfl (lv_at hl 1 rfl) ?_
  refine zv_if_eq (tgt := 11) hx hb (by omega) dX5_trial_1 (by decide) (fun c_1 => ?_) (fun c_1 => ?_)
  · refine lv_aload_n hx hb dX5_trial_11 rfl (lv_at hl 0 rfl) ?_
    refine va_get (D := (dC, dI)) (ci := 4) (v := .ref h0) (C := RX5) (T := TX5) (N := 12) hx hb hts in_X5 hown hK hP 0 rfl rfl 1 (by decide) w_0 (fun _ h9 => h9) rfl dX5_trial_12 ?_
    refine va_getN (D := (dC, dI)) (ci := 0) (v := .int (zI n)) (C := RX0) (T := TX0) (N := 5) hx hb hts in_X0 hown hK hP 1 rfl rfl 0 (by decide) n_78 (fun _ h9 => h9) rfl dX5_trial_15 ?_
    refine zv_if_ne (tgt := 24) hx hb (by omega) dX5_trial_18 (by decide) (fun c_18 => ?_) (fun c_18 => ?_)
    · refine lv_aload_n hx hb dX5_trial_24 rfl (lv_at hl 0 rfl) ?_
      refine zv_iconst hx hb dX5_trial_25 ?_
      refine zv_callWV (As := [.int (zI 0)]) (rest := []) (ws2 := fun u => [(w0, .inr (4, [.ref x0, .ref h0, .ref g0, .ref p0, .ref q0, .ref r0, .int (zI fk), .int (zI sk), .ref t0, .ref b1, .ref b2, .long tr])), (h0, .inr (0, [.int (zI n), .ref h1, .ref h2, .ref h3, .ref h4])), (h1, .inl (cI, 9, .inl (zA so))), (h2, .inl (cI, 9, .inl (zA le))), (h3, .inl (cI, 9, .inl (zA ri))), (h4, .inl (cI, 9, .inl (zA ti))), (t0, .inr (3, [.int (zI tn), .ref t1, .ref t2])), (t1, .inl (cI, 9, .inl (zA ts))), (t2, .inl (cI, 9, .inl (zA tc))), (b2, .inl (cI, 10, .inl (zA u)))]) ⟨hx, hb, hml, hown, hts⟩ (c_X5_leftAtWorst l dC dI cI cB cZ w0 x0 h0 g0 p0 q0 r0 fk sk t0 b1 b2 tr h1 h2 h3 h4 n so le ri ti t1 t2 tn ts tc gp 0 (by exact hh) (by omega) (by exact htz) (by exact htc) (by omega) (by omega)) (cwV 1 hts gX5_trial_X5_leftAtWorst rfl rfl rfl (by decide +kernel) ⟨by rw [← hRM]; first | decide | (dsimp only; omega), by rw [← hRM]; first | decide | (dsimp only; omega)⟩) hP hD hS hA hK [0, 1, 2, 3, 4, 5, 6, 7, 8, 9] rfl (by decide) [0, 1, 2] rfl zN_bl (zN_go hE) (fun _ => rfl) (fun _ => rfl) (q0 := 0) rfl rfl rfl rfl hl.1 rfl (Nat.le_of_ble_eq_true rfl) dX5_trial_26 ⟨Nat.zero_le _, Nat.zero_le _⟩ (fun u H locs hpo hP hD hS => ?_)
      obtain ⟨gp2_26, rfl⟩ : ∃ z, z = u := ⟨_, rfl⟩
      have hP : va_P (dC, dI) vwCl [(w0, .inr (4, [.ref x0, .ref h0, .ref g0, .ref p0, .ref q0, .ref r0, .int (zI fk), .int (zI sk), .ref t0, .ref b1, .ref b2, .long tr])), (h0, .inr (0, [.int (zI n), .ref h1, .ref h2, .ref h3, .ref h4])), (h1, .inl (cI, 9, .inl (zA so))), (h2, .inl (cI, 9, .inl (zA le))), (h3, .inl (cI, 9, .inl (zA ri))), (h4, .inl (cI, 9, .inl (zA ti))), (t0, .inr (3, [.int (zI tn), .ref t1, .ref t2])), (t1, .inl (cI, 9, .inl (zA ts))), (t2, .inl (cI, 9, .inl (zA tc))), (b2, .inl (cI, 10, .inl (zA gp2_26)))] H := hP
      have hD : va_D A [(w0, .inr (4, [.ref x0, .ref h0, .ref g0, .ref p0, .ref q0, .ref r0, .int (zI fk), .int (zI sk), .ref t0, .ref b1, .ref b2, .long tr])), (h0, .inr (0, [.int (zI n), .ref h1, .ref h2, .ref h3, .ref h4])), (h1, .inl (cI, 9, .inl (zA so))), (h2, .inl (cI, 9, .inl (zA le))), (h3, .inl (cI, 9, .inl (zA ri))), (h4, .inl (cI, 9, .inl (zA ti))), (t0, .inr (3, [.int (zI tn), .ref t1, .ref t2])), (t1, .inl (cI, 9, .inl (zA ts))), (t2, .inl (cI, 9, .inl (zA tc))), (b2, .inl (cI, 10, .inl (zA gp2_26)))] := hD
      refine W.eq (g2 := F0 m 29 ls [.int (zI ((gwS so le ri ti n ts tc tn 0 10).2))]) rfl ?_
      refine lv_istore_n (lv' := [(2, .int (zI ((gwS so le ri ti n ts tc tn 0 10).2))), (0, .ref w0), (1, .int (zI w))]) hx hb dX5_trial_29 rfl hl (by decide) rfl (fun ls hl => ?_)
      refine lv_aload_n hx hb dX5_trial_30 rfl (lv_at hl 1 rfl) ?_
      refine zv_iconst hx hb dX5_trial_31 ?_
      refine zv_callWV (As := [.int (zI 1)]) (rest := []) (ws2 := fun u => [(w0, .inr (4, [.ref x0, .ref h0, .ref g0, .ref p0, .ref q0, .ref r0, .int (zI fk), .int (zI sk), .ref t0, .ref b1, .ref b2, .long tr])), (h0, .inr (0, [.int (zI n), .ref h1, .ref h2, .ref h3, .ref h4])), (h1, .inl (cI, 9, .inl (zA so))), (h2, .inl (cI, 9, .inl (zA le))), (h3, .inl (cI, 9, .inl (zA ri))), (h4, .inl (cI, 9, .inl (zA ti))), (t0, .inr (3, [.int (zI tn), .ref t1, .ref t2])), (t1, .inl (cI, 9, .inl (zA ts))), (t2, .inl (cI, 9, .inl (zA tc))), (b2, .inl (cI, 10, .inl (zA u)))]) ⟨hx, hb, hml, hown, hts⟩ (c_X5_leftAtWorst l dC dI cI cB cZ w0 x0 h0 g0 p0 q0 r0 fk sk t0 b1 b2 tr h1 h2 h3 h4 n so le ri ti t1 t2 tn ts tc gp2_26 1 (by exact hh) (by omega) (by exact htz) (by exact htc) (by omega) (by omega)) (cwV 1 hts gX5_trial_X5_leftAtWorst rfl rfl rfl (by decide +kernel) ⟨by rw [← hRM]; first | decide | (dsimp only; omega), by rw [← hRM]; first | decide | (dsimp only; omega)⟩) hP hD hS hA hK [0, 1, 2, 3, 4, 5, 6, 7, 8, 9] rfl (by decide) [0, 1, 2] rfl zN_bl (zN_go hE) (fun _ => rfl) (fun _ => rfl) (q0 := 0) rfl rfl rfl rfl hl.1 rfl (Nat.le_of_ble_eq_true rfl) dX5_trial_32 ⟨Nat.zero_le _, Nat.zero_le _⟩ (fun u H locs hpo hP hD hS => ?_)
      obtain ⟨gp2_32, rfl⟩ : ∃ z, z = u := ⟨_, rfl⟩
      have hP : va_P (dC, dI) vwCl [(w0, .inr (4, [.ref x0, .ref h0, .ref g0, .ref p0, .ref q0, .ref r0, .int (zI fk), .int (zI sk), .ref t0, .ref b1, .ref b2, .long tr])), (h0, .inr (0, [.int (zI n), .ref h1, .ref h2, .ref h3, .ref h4])), (h1, .inl (cI, 9, .inl (zA so))), (h2, .inl (cI, 9, .inl (zA le))), (h3, .inl (cI, 9, .inl (zA ri))), (h4, .inl (cI, 9, .inl (zA ti))), (t0, .inr (3, [.int (zI tn), .ref t1, .ref t2])), (t1, .inl (cI, 9, .inl (zA ts))), (t2, .inl (cI, 9, .inl (zA tc))), (b2, .inl (cI, 10, .inl (zA gp2_32)))] H := hP
      have hD : va_D A [(w0, .inr (4, [.ref x0, .ref h0, .ref g0, .ref p0, .ref q0, .ref r0, .int (zI fk), .int (zI sk), .ref t0, .ref b1, .ref b2, .long tr])), (h0, .inr (0, [.int (zI n), .ref h1, .ref h2, .ref h3, .ref h4])), (h1, .inl (cI, 9, .inl (zA so))), (h2, .inl (cI, 9, .inl (zA le))), (h3, .inl (cI, 9, .inl (zA ri))), (h4, .inl (cI, 9, .inl (zA ti))), (t0, .inr (3, [.int (zI tn), .ref t1, .ref t2])), (t1, .inl (cI, 9, .inl (zA ts))), (t2, .inl (cI, 9, .inl (zA tc))), (b2, .inl (cI, 10, .inl (zA gp2_32)))] := hD
      refine W.eq (g2 := F0 m 35 ls [.int (zI ((gwS so le ri ti n ts tc tn 1 10).2))]) rfl ?_
      refine lv_istore_n (lv' := [(3, .int (zI ((gwS so le ri ti n ts tc tn 1 10).2))), (2, .int (zI ((gwS so le ri ti n ts tc tn 0 10).2))), (0, .ref w0), (1, .int (zI w))]) hx hb dX5_trial_35 rfl hl (by decide) rfl (fun ls hl => ?_)
      refine lv_iload_n hx hb dX5_trial_36 rfl (lv_at hl 1 rfl) ?_
      refine zv_if_ne (tgt := 43) hx hb (by omega) dX5_trial_37 (by decide) (fun c_37 => ?_) (fun c_37 => ?_)
      · refine lv_iload_n hx hb dX5_trial_43 rfl (lv_at hl 3 rfl) ?_
        refine zv_iconst hx hb dX5_trial_44 ?_
        refine zv_icmp_ne (tgt := 54) hx hb (by omega) (by omega) dX5_trial_45 (by decide) (fun c_45 => ?_) (fun c_45 => ?_)
        · refine lv_iload_n hx hb dX5_trial_54 rfl (lv_at hl 0 rfl) ?_
          refine lv_iload_n hx hb dX5_trial_55 rfl (lv_at hl 1 rfl) ?_
          refine zv_icmp_ge (tgt := 63) hx hb (by omega) (by omega) dX5_trial_56 (by decide) (fun c_56 => ?_) (fun c_56 => ?_)
          · refine zv_iconst hx hb dX5_trial_63 ?_
            rw [← hQQ]
            exact zw_iret hx hb hr hlocks (gp2_32) (congrArg (fun z => some (Value.int (zI z))) (show q_trial so le ri ti n ts tc tn w = 0 from by unfold q_trial; (repeat' split) <;> first | rfl | omega)) trivial hP hS dX5_trial_64
          · refine zv_iconst hx hb dX5_trial_59 ?_
            refine lv_goto (tgt := 64) hx hb dX5_trial_60 (by decide) ?_
            rw [← hQQ]
            exact zw_iret hx hb hr hlocks (gp2_32) (congrArg (fun z => some (Value.int (zI z))) (show q_trial so le ri ti n ts tc tn w = 1 from by unfold q_trial; (repeat' split) <;> first | rfl | omega)) trivial hP hS dX5_trial_64
        · refine lv_iload_n hx hb dX5_trial_48 rfl (lv_at hl 1 rfl) ?_
          refine lv_iload_n hx hb dX5_trial_49 rfl (lv_at hl 0 rfl) ?_
          refine zv_mmin hx hb (hml.trans hl.1.symm) hown w_1 w_2 w_3 w_4 (by rw [← hRM]; decide) (by rw [← hRM]; decide) (Nat.zero_le _) (Nat.zero_le _) (by omega) (by omega) dX5_trial_50 ?_
          rw [← hQQ]
          exact zw_iret hx hb hr hlocks (gp2_32) (congrArg (fun z => some (Value.int (zI z))) (show q_trial so le ri ti n ts tc tn w = min ((gwS so le ri ti n ts tc tn 0 10).2) ((gwS so le ri ti n ts tc tn 1 10).2) from by unfold q_trial; (repeat' split) <;> first | rfl | omega)) trivial hP hS dX5_trial_53
      · refine zv_bipush hx hb dX5_trial_40 (by decide +kernel) ?_
        rw [← hQQ]
        exact zw_iret hx hb hr hlocks (gp2_32) (congrArg (fun z => some (Value.int (zI z))) (show q_trial so le ri ti n ts tc tn w = (-9) from by unfold q_trial; (repeat' split) <;> first | rfl | omega)) trivial hP hS dX5_trial_42
    · refine zv_bipush hx hb dX5_trial_21 (by decide +kernel) ?_
      rw [← hQQ]
      exact zw_iret hx hb hr hlocks (gp) (congrArg (fun z => some (Value.int (zI z))) (show q_trial so le ri ti n ts tc tn w = (-2) from by unfold q_trial; (repeat' split) <;> first | rfl | omega)) trivial hP hS dX5_trial_23
  · refine lv_iload_n hx hb dX5_trial_4 rfl (lv_at hl 1 rfl) ?_
    refine zv_iconst hx hb dX5_trial_5 ?_
    refine zv_icmp_eq (tgt := 11) hx hb (by omega) (by omega) dX5_trial_6 (by decide) (fun c_6 => ?_) (fun c_6 => ?_)
    · refine lv_aload_n hx hb dX5_trial_11 rfl (lv_at hl 0 rfl) ?_
      refine va_get (D := (dC, dI)) (ci := 4) (v := .ref h0) (C := RX5) (T := TX5) (N := 12) hx hb hts in_X5 hown hK hP 0 rfl rfl 1 (by decide) w_0 (fun _ h9 => h9) rfl dX5_trial_12 ?_
      refine va_getN (D := (dC, dI)) (ci := 0) (v := .int (zI n)) (C := RX0) (T := TX0) (N := 5) hx hb hts in_X0 hown hK hP 1 rfl rfl 0 (by decide) n_78 (fun _ h9 => h9) rfl dX5_trial_15 ?_
      refine zv_if_ne (tgt := 24) hx hb (by omega) dX5_trial_18 (by decide) (fun c_18 => ?_) (fun c_18 => ?_)
      · refine lv_aload_n hx hb dX5_trial_24 rfl (lv_at hl 0 rfl) ?_
        refine zv_iconst hx hb dX5_trial_25 ?_
        refine zv_callWV (As := [.int (zI 0)]) (rest := []) (ws2 := fun u => [(w0, .inr (4, [.ref x0, .ref h0, .ref g0, .ref p0, .ref q0, .ref r0, .int (zI fk), .int (zI sk), .ref t0, .ref b1, .ref b2, .long tr])), (h0, .inr (0, [.int (zI n), .ref h1, .ref h2, .ref h3, .ref h4])), (h1, .inl (cI, 9, .inl (zA so))), (h2, .inl (cI, 9, .inl (zA le))), (h3, .inl (cI, 9, .inl (zA ri))), (h4, .inl (cI, 9, .inl (zA ti))), (t0, .inr (3, [.int (zI tn), .ref t1, .ref t2])), (t1, .inl (cI, 9, .inl (zA ts))), (t2, .inl (cI, 9, .inl (zA tc))), (b2, .inl (cI, 10, .inl (zA u)))]) ⟨hx, hb, hml, hown, hts⟩ (c_X5_leftAtWorst l dC dI cI cB cZ w0 x0 h0 g0 p0 q0 r0 fk sk t0 b1 b2 tr h1 h2 h3 h4 n so le ri ti t1 t2 tn ts tc gp 0 (by exact hh) (by omega) (by exact htz) (by exact htc) (by omega) (by omega)) (cwV 1 hts gX5_trial_X5_leftAtWorst rfl rfl rfl (by decide +kernel) ⟨by rw [← hRM]; first | decide | (dsimp only; omega), by rw [← hRM]; first | decide | (dsimp only; omega)⟩) hP hD hS hA hK [0, 1, 2, 3, 4, 5, 6, 7, 8, 9] rfl (by decide) [0, 1, 2] rfl zN_bl (zN_go hE) (fun _ => rfl) (fun _ => rfl) (q0 := 0) rfl rfl rfl rfl hl.1 rfl (Nat.le_of_ble_eq_true rfl) dX5_trial_26 ⟨Nat.zero_le _, Nat.zero_le _⟩ (fun u H locs hpo hP hD hS => ?_)
        obtain ⟨gp2_26, rfl⟩ : ∃ z, z = u := ⟨_, rfl⟩
        have hP : va_P (dC, dI) vwCl [(w0, .inr (4, [.ref x0, .ref h0, .ref g0, .ref p0, .ref q0, .ref r0, .int (zI fk), .int (zI sk), .ref t0, .ref b1, .ref b2, .long tr])), (h0, .inr (0, [.int (zI n), .ref h1, .ref h2, .ref h3, .ref h4])), (h1, .inl (cI, 9, .inl (zA so))), (h2, .inl (cI, 9, .inl (zA le))), (h3, .inl (cI, 9, .inl (zA ri))), (h4, .inl (cI, 9, .inl (zA ti))), (t0, .inr (3, [.int (zI tn), .ref t1, .ref t2])), (t1, .inl (cI, 9, .inl (zA ts))), (t2, .inl (cI, 9, .inl (zA tc))), (b2, .inl (cI, 10, .inl (zA gp2_26)))] H := hP
        have hD : va_D A [(w0, .inr (4, [.ref x0, .ref h0, .ref g0, .ref p0, .ref q0, .ref r0, .int (zI fk), .int (zI sk), .ref t0, .ref b1, .ref b2, .long tr])), (h0, .inr (0, [.int (zI n), .ref h1, .ref h2, .ref h3, .ref h4])), (h1, .inl (cI, 9, .inl (zA so))), (h2, .inl (cI, 9, .inl (zA le))), (h3, .inl (cI, 9, .inl (zA ri))), (h4, .inl (cI, 9, .inl (zA ti))), (t0, .inr (3, [.int (zI tn), .ref t1, .ref t2])), (t1, .inl (cI, 9, .inl (zA ts))), (t2, .inl (cI, 9, .inl (zA tc))), (b2, .inl (cI, 10, .inl (zA gp2_26)))] := hD
        refine W.eq (g2 := F0 m 29 ls [.int (zI ((gwS so le ri ti n ts tc tn 0 10).2))]) rfl ?_
        refine lv_istore_n (lv' := [(2, .int (zI ((gwS so le ri ti n ts tc tn 0 10).2))), (0, .ref w0), (1, .int (zI w))]) hx hb dX5_trial_29 rfl hl (by decide) rfl (fun ls hl => ?_)
        refine lv_aload_n hx hb dX5_trial_30 rfl (lv_at hl 1 rfl) ?_
        refine zv_iconst hx hb dX5_trial_31 ?_
        refine zv_callWV (As := [.int (zI 1)]) (rest := []) (ws2 := fun u => [(w0, .inr (4, [.ref x0, .ref h0, .ref g0, .ref p0, .ref q0, .ref r0, .int (zI fk), .int (zI sk), .ref t0, .ref b1, .ref b2, .long tr])), (h0, .inr (0, [.int (zI n), .ref h1, .ref h2, .ref h3, .ref h4])), (h1, .inl (cI, 9, .inl (zA so))), (h2, .inl (cI, 9, .inl (zA le))), (h3, .inl (cI, 9, .inl (zA ri))), (h4, .inl (cI, 9, .inl (zA ti))), (t0, .inr (3, [.int (zI tn), .ref t1, .ref t2])), (t1, .inl (cI, 9, .inl (zA ts))), (t2, .inl (cI, 9, .inl (zA tc))), (b2, .inl (cI, 10, .inl (zA u)))]) ⟨hx, hb, hml, hown, hts⟩ (c_X5_leftAtWorst l dC dI cI cB cZ w0 x0 h0 g0 p0 q0 r0 fk sk t0 b1 b2 tr h1 h2 h3 h4 n so le ri ti t1 t2 tn ts tc gp2_26 1 (by exact hh) (by omega) (by exact htz) (by exact htc) (by omega) (by omega)) (cwV 1 hts gX5_trial_X5_leftAtWorst rfl rfl rfl (by decide +kernel) ⟨by rw [← hRM]; first | decide | (dsimp only; omega), by rw [← hRM]; first | decide | (dsimp only; omega)⟩) hP hD hS hA hK [0, 1, 2, 3, 4, 5, 6, 7, 8, 9] rfl (by decide) [0, 1, 2] rfl zN_bl (zN_go hE) (fun _ => rfl) (fun _ => rfl) (q0 := 0) rfl rfl rfl rfl hl.1 rfl (Nat.le_of_ble_eq_true rfl) dX5_trial_32 ⟨Nat.zero_le _, Nat.zero_le _⟩ (fun u H locs hpo hP hD hS => ?_)
        obtain ⟨gp2_32, rfl⟩ : ∃ z, z = u := ⟨_, rfl⟩
        have hP : va_P (dC, dI) vwCl [(w0, .inr (4, [.ref x0, .ref h0, .ref g0, .ref p0, .ref q0, .ref r0, .int (zI fk), .int (zI sk), .ref t0, .ref b1, .ref b2, .long tr])), (h0, .inr (0, [.int (zI n), .ref h1, .ref h2, .ref h3, .ref h4])), (h1, .inl (cI, 9, .inl (zA so))), (h2, .inl (cI, 9, .inl (zA le))), (h3, .inl (cI, 9, .inl (zA ri))), (h4, .inl (cI, 9, .inl (zA ti))), (t0, .inr (3, [.int (zI tn), .ref t1, .ref t2])), (t1, .inl (cI, 9, .inl (zA ts))), (t2, .inl (cI, 9, .inl (zA tc))), (b2, .inl (cI, 10, .inl (zA gp2_32)))] H := hP
        have hD : va_D A [(w0, .inr (4, [.ref x0, .ref h0, .ref g0, .ref p0, .ref q0, .ref r0, .int (zI fk), .int (zI sk), .ref t0, .ref b1, .ref b2, .long tr])), (h0, .inr (0, [.int (zI n), .ref h1, .ref h2, .ref h3, .ref h4])), (h1, .inl (cI, 9, .inl (zA so))), (h2, .inl (cI, 9, .inl (zA le))), (h3, .inl (cI, 9, .inl (zA ri))), (h4, .inl (cI, 9, .inl (zA ti))), (t0, .inr (3, [.int (zI tn), .ref t1, .ref t2])), (t1, .inl (cI, 9, .inl (zA ts))), (t2, .inl (cI, 9, .inl (zA tc))), (b2, .inl (cI, 10, .inl (zA gp2_32)))] := hD
        refine W.eq (g2 := F0 m 35 ls [.int (zI ((gwS so le ri ti n ts tc tn 1 10).2))]) rfl ?_
        refine lv_istore_n (lv' := [(3, .int (zI ((gwS so le ri ti n ts tc tn 1 10).2))), (2, .int (zI ((gwS so le ri ti n ts tc tn 0 10).2))), (0, .ref w0), (1, .int (zI w))]) hx hb dX5_trial_35 rfl hl (by decide) rfl (fun ls hl => ?_)
        refine lv_iload_n hx hb dX5_trial_36 rfl (lv_at hl 1 rfl) ?_
        refine zv_if_ne (tgt := 43) hx hb (by omega) dX5_trial_37 (by decide) (fun c_37 => ?_) (fun c_37 => ?_)
        · refine lv_iload_n hx hb dX5_trial_43 rfl (lv_at hl 3 rfl) ?_
          refine zv_iconst hx hb dX5_trial_44 ?_
          refine zv_icmp_ne (tgt := 54) hx hb (by omega) (by omega) dX5_trial_45 (by decide) (fun c_45 => ?_) (fun c_45 => ?_)
          · refine lv_iload_n hx hb dX5_trial_54 rfl (lv_at hl 0 rfl) ?_
            refine lv_iload_n hx hb dX5_trial_55 rfl (lv_at hl 1 rfl) ?_
            refine zv_icmp_ge (tgt := 63) hx hb (by omega) (by omega) dX5_trial_56 (by decide) (fun c_56 => ?_) (fun c_56 => ?_)
            · refine zv_iconst hx hb dX5_trial_63 ?_
              rw [← hQQ]
              exact zw_iret hx hb hr hlocks (gp2_32) (congrArg (fun z => some (Value.int (zI z))) (show q_trial so le ri ti n ts tc tn w = 0 from by unfold q_trial; (repeat' split) <;> first | rfl | omega)) trivial hP hS dX5_trial_64
            · refine zv_iconst hx hb dX5_trial_59 ?_
              refine lv_goto (tgt := 64) hx hb dX5_trial_60 (by decide) ?_
              rw [← hQQ]
              exact zw_iret hx hb hr hlocks (gp2_32) (congrArg (fun z => some (Value.int (zI z))) (show q_trial so le ri ti n ts tc tn w = 1 from by unfold q_trial; (repeat' split) <;> first | rfl | omega)) trivial hP hS dX5_trial_64
          · refine lv_iload_n hx hb dX5_trial_48 rfl (lv_at hl 1 rfl) ?_
            refine lv_iload_n hx hb dX5_trial_49 rfl (lv_at hl 0 rfl) ?_
            refine zv_mmin hx hb (hml.trans hl.1.symm) hown w_1 w_2 w_3 w_4 (by rw [← hRM]; decide) (by rw [← hRM]; decide) (Nat.zero_le _) (Nat.zero_le _) (by omega) (by omega) dX5_trial_50 ?_
            rw [← hQQ]
            exact zw_iret hx hb hr hlocks (gp2_32) (congrArg (fun z => some (Value.int (zI z))) (show q_trial so le ri ti n ts tc tn w = min ((gwS so le ri ti n ts tc tn 0 10).2) ((gwS so le ri ti n ts tc tn 1 10).2) from by unfold q_trial; (repeat' split) <;> first | rfl | omega)) trivial hP hS dX5_trial_53
        · refine zv_bipush hx hb dX5_trial_40 (by decide +kernel) ?_
          rw [← hQQ]
          exact zw_iret hx hb hr hlocks (gp2_32) (congrArg (fun z => some (Value.int (zI z))) (show q_trial so le ri ti n ts tc tn w = (-9) from by unfold q_trial; (repeat' split) <;> first | rfl | omega)) trivial hP hS dX5_trial_42
      · refine zv_bipush hx hb dX5_trial_21 (by decide +kernel) ?_
        rw [← hQQ]
        exact zw_iret hx hb hr hlocks (gp) (congrArg (fun z => some (Value.int (zI z))) (show q_trial so le ri ti n ts tc tn w = (-2) from by unfold q_trial; (repeat' split) <;> first | rfl | omega)) trivial hP hS dX5_trial_23
    · refine zv_iconst hx hb dX5_trial_9 ?_
      rw [← hQQ]
      exact zw_iret hx hb hr hlocks (gp) (congrArg (fun z => some (Value.int (zI z))) (show q_trial so le ri ti n ts tc tn w = (-1) from by unfold q_trial; (repeat' split) <;> first | rfl | omega)) trivial hP hS dX5_trial_10
