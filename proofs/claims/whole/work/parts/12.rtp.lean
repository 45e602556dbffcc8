def coS (so le ri ti : Int → Int) (lo n : Int) (sp : Int → Int) : Nat → (Int → Int) → Int
  | 0, st => if pk st = pk sp then 1 else 0
  | f + 1, st => coS so le ri ti lo n sp f (goS so le ri ti lo 0 9 st (n - 1)).1 + coS so le ri ti lo n sp f (goS so le ri ti lo 1 9 st (n - 1)).1
theorem coS_s {so le ri ti : Int → Int} {lo n : Int} {sp st : Int → Int} {mb : Int} (h : 1 ≤ mb) : coS so le ri ti lo n sp mb.toNat st = coS so le ri ti lo n sp (mb - 1).toNat (goS so le ri ti lo 0 9 st (n - 1)).1 + coS so le ri ti lo n sp (mb - 1).toNat (goS so le ri ti lo 1 9 st (n - 1)).1 := by
  rw [show mb.toNat = (mb - 1).toNat + 1 by omega]
  rfl
theorem coS_cong {n : Int} {so le ri ti : Int → Int} (hh : hOk n so le ri ti) (h1 : 1 ≤ n) {lo : Int} {sp : Int → Int} : ∀ (f : Nat) (st su : Int → Int), (∀ {k : Int}, 0 ≤ k → k < 9 → st k = su k) → coS so le ri ti lo n sp f st = coS so le ri ti lo n sp f su
  | 0, st, su, h => by
    show (if pk st = pk sp then (1 : Int) else 0) = if pk su = pk sp then 1 else 0
    rw [pk_cong (fun k h0 h1 => h h0 h1)]
  | f + 1, st, su, h => by
    have a := goS_st hh lo 0 9 st su (n - 1) (by omega) (by omega) (fun j h0 h1 => h h0 h1)
    have b := goS_st hh lo 1 9 st su (n - 1) (by omega) (by omega) (fun j h0 h1 => h h0 h1)
    show coS so le ri ti lo n sp f _ + coS so le ri ti lo n sp f _ = coS so le ri ti lo n sp f _ + coS so le ri ti lo n sp f _
    rw [coS_cong hh h1 f _ _ (fun {k} h0 h1 => a.2 k h0 h1), coS_cong hh h1 f _ _ (fun {k} h0 h1 => b.2 k h0 h1)]
set_option maxHeartbeats 4000000 in
set_option maxRecDepth 100000 in
theorem c_X5_rowsToPresent_d (l : Launch) (dC : Nat → ClassId) (dI : Nat → Nat → Nat) (cI cB cZ : ClassId) (w0 : Nat) (x0 : Nat) (h0 : Nat) (g0 : Nat) (p0 : Nat) (q0 : Nat) (r0 : Nat) (fk : Int) (sk : Int) (t0 : Nat) (b1 : Nat) (b2 : Nat) (tr : Int64) (h1 : Nat) (h2 : Nat) (h3 : Nat) (h4 : Nat) (n : Int) (so : Int → Int) (le : Int → Int) (ri : Int → Int) (ti : Int → Int) (p1 : Nat) (p2 : Nat) (sp : Int → Int) (lo : Int) (li : Int) (kn : Int) (hh : hOk n so le ri ti) (hn1 : 1 ≤ n) (hlo : -9 ≤ lo ∧ lo ≤ 8) (h7 : s7 sp) (hX : True) (hY : True) (d : Nat) (IH : ∀ d' : Nat, d' < d → ∀ (mb : Int) (st : Int → Int) (hmb : 0 ≤ mb ∧ mb ≤ 9 ∧ mb ≤ (d' : Int)) (hs : sOk n so ti st), MetR l yX5_rowsToPresent wsX5_rowsToPresent ({ frames := 3 + d', cells := 0, slots := 0, locals := 75 + 25 * d' }) (dC, dI) vwCl (zT cI cB cZ) zN [(w0, .inr (4, [.ref x0, .ref h0, .ref g0, .ref p0, .ref q0, .ref r0, .int (zI fk), .int (zI sk), .ref t0, .ref b1, .ref b2, .long tr])), (h0, .inr (0, [.int (zI n), .ref h1, .ref h2, .ref h3, .ref h4])), (h1, .inl (cI, 9, .inl (zA so))), (h2, .inl (cI, 9, .inl (zA le))), (h3, .inl (cI, 9, .inl (zA ri))), (h4, .inl (cI, 9, .inl (zA ti))), (p0, .inr (1, [.int (zI (pk sp)), .int (zI lo), .int (zI li), .int (zI kn), .ref p1, .ref p2]))] [.ref w0, .int (zI mb), .int (zI (pk st))] (zI (coS so le ri ti lo n sp mb.toNat st))) (mb : Int) (st : Int → Int) (hmb : 0 ≤ mb ∧ mb ≤ 9 ∧ mb ≤ (d : Int)) (hs : sOk n so ti st) : MetR l yX5_rowsToPresent wsX5_rowsToPresent ({ frames := 3 + d, cells := 0, slots := 0, locals := 75 + 25 * d }) (dC, dI) vwCl (zT cI cB cZ) zN [(w0, .inr (4, [.ref x0, .ref h0, .ref g0, .ref p0, .ref q0, .ref r0, .int (zI fk), .int (zI sk), .ref t0, .ref b1, .ref b2, .long tr])), (h0, .inr (0, [.int (zI n), .ref h1, .ref h2, .ref h3, .ref h4])), (h1, .inl (cI, 9, .inl (zA so))), (h2, .inl (cI, 9, .inl (zA le))), (h3, .inl (cI, 9, .inl (zA ri))), (h4, .inl (cI, 9, .inl (zA ti))), (p0, .inr (1, [.int (zI (pk sp)), .int (zI lo), .int (zI li), .int (zI kn), .ref p1, .ref p2]))] [.ref w0, .int (zI mb), .int (zI (pk st))] (zI (coS so le ri ti lo n sp mb.toNat st)) := by
  refine MetR.intro (cc := cX5_rowsToPresent) (maxL := 6) (ret := (some .int)) (by decide) rfl (Nat.le_of_ble_eq_true rfl) ?_
  intro p e s m args below meth c hx hb hr hlocks hml hts hown hP hK hE ls hl
  have hown : s.vm.findClass RX5 = some m.cls := hown
  have hl : lv_has ls 6 [(0, .ref w0), (1, .int (zI mb)), (2, .int (zI (pk st)))] := hl
  generalize hRM : ({ frames := 3 + d, cells := 0, slots := 0, locals := 75 + 25 * d } : Room) = RM
  generalize hQQ : MQ below (vp_Si (fun r => r = zI (coS so le ri ti lo n sp mb.toNat st))) args s 0 0 (fun _ => False) = QQ
  have in_X1 : ∀ w ∈ wsX10, w ∈ wsX5_rowsToPresent := by decide +kernel
  have in_X5 : ∀ w ∈ wsX50, w ∈ wsX5_rowsToPresent := by decide +kernel
  have w_0 := hts (.fieldLink RX5 29 "WallMarbles" "present" "LWallMarbles$Present;") (by decide +kernel)
  have w_1 := hts (.fieldLink RX5 19 "WallMarbles" "built" "LWallMarbles$House;") (by decide +kernel)
  have n_98 := va_Nw.use (A := args) rfl (zN_3 hE)
  have n_116 := va_Nw.use (A := args) rfl (zN_4 hE)
  have hn := hh.1
  have r0 := pk_rng h7
  have r1 := pk_rng (sOk_s7 hh hs)
  obtain ⟨g1, g2⟩ := goS_ok hh lo 0 9 st (n - 1) (by omega) (by omega) hs
  obtain ⟨g3, g4⟩ := goS_ok hh lo 1 9 st (n - 1) (by omega) (by omega) hs
  have r2 := pk_rng (sOk_s7 hh g1)
  have r3 := pk_rng (sOk_s7 hh g3)
  refine lv_iload_n hx hb dX5_rowsToPresent_0 rfl (lv_at hl 1 rfl) ?_
  refine zv_if_le (tgt := 10) hx hb (by omega) dX5_rowsToPresent_1 (by decide) (fun c_1 => ?_) (fun c_1 => ?_)
  · refine lv_iload_n hx hb dX5_rowsToPresent_10 rfl (lv_at hl 2 rfl) ?_
    refine lv_aload_n hx hb dX5_rowsToPresent_11 rfl (lv_at hl 0 rfl) ?_
    refine va_get (D := (dC, dI)) (ci := 4) (v := .ref p0) (C := RX5) (T := TX5) (N := 12) hx hb hts in_X5 hown hK hP 0 rfl rfl 3 (by decide) w_0 (fun _ h9 => h9) rfl dX5_rowsToPresent_12 ?_
    refine va_getN (D := (dC, dI)) (ci := 1) (v := .int (zI (pk sp))) (C := RX1) (T := TX1) (N := 6) hx hb hts in_X1 hown hK hP 6 rfl rfl 0 (by decide) n_98 (fun _ h9 => h9) rfl dX5_rowsToPresent_15 ?_
    refine zv_icmp_ne (tgt := 25) hx hb (by omega) (by omega) dX5_rowsToPresent_18 (by decide) (fun c_18 => ?_) (fun c_18 => ?_)
    · refine zv_iconst hx hb dX5_rowsToPresent_25 ?_
      rw [← hQQ]
      exact zr_iret hx hb hr hlocks (congrArg zI (show 0 = coS so le ri ti lo n sp mb.toNat st from by rw [show mb = 0 by omega]; show _ = if pk st = pk sp then 1 else 0; first | (rw [if_pos (by omega)]) | (rw [if_neg (by omega)]))) dX5_rowsToPresent_26
    · refine zv_iconst hx hb dX5_rowsToPresent_21 ?_
      refine lv_goto (tgt := 26) hx hb dX5_rowsToPresent_22 (by decide) ?_
      rw [← hQQ]
      exact zr_iret hx hb hr hlocks (congrArg zI (show 1 = coS so le ri ti lo n sp mb.toNat st from by rw [show mb = 0 by omega]; show _ = if pk st = pk sp then 1 else 0; first | (rw [if_pos (by omega)]) | (rw [if_neg (by omega)]))) dX5_rowsToPresent_26
  · refine lv_iload_n hx hb dX5_rowsToPresent_4 rfl (lv_at hl 1 rfl) ?_
    refine zv_bipush hx hb dX5_rowsToPresent_5 (by decide +kernel) ?_
    refine zv_icmp_le (tgt := 27) hx hb (by omega) (by omega) dX5_rowsToPresent_7 (by decide) (fun c_7 => ?_) (fun c_7 => ?_)
    · refine lv_aload_n hx hb dX5_rowsToPresent_27 rfl (lv_at hl 0 rfl) ?_
      refine va_get (D := (dC, dI)) (ci := 4) (v := .ref h0) (C := RX5) (T := TX5) (N := 12) hx hb hts in_X5 hown hK hP 0 rfl rfl 1 (by decide) w_1 (fun _ h9 => h9) rfl dX5_rowsToPresent_28 ?_
      refine lv_iload_n hx hb dX5_rowsToPresent_31 rfl (lv_at hl 2 rfl) ?_
      refine zv_iconst hx hb dX5_rowsToPresent_32 ?_
      refine lv_aload_n hx hb dX5_rowsToPresent_33 rfl (lv_at hl 0 rfl) ?_
      refine va_get (D := (dC, dI)) (ci := 4) (v := .ref p0) (C := RX5) (T := TX5) (N := 12) hx hb hts in_X5 hown hK hP 0 rfl rfl 3 (by decide) w_0 (fun _ h9 => h9) rfl dX5_rowsToPresent_34 ?_
      refine va_getN (D := (dC, dI)) (ci := 1) (v := .int (zI lo)) (C := RX1) (T := TX1) (N := 6) hx hb hts in_X1 hown hK hP 6 rfl rfl 1 (by decide) n_116 (fun _ h9 => h9) rfl dX5_rowsToPresent_37 ?_
      refine zv_callRV (As := [.int (zI (pk st)), .int (zI 0), .int (zI lo)]) (rest := []) ⟨hx, hb, hml, hown, hts⟩ (c_X0_standingAfter l dC dI cI cB cZ h0 h1 h2 h3 h4 n so le ri ti st 0 lo (by exact hh) (by omega) (by exact hs) (by omega) (by omega)) (cwV 3 hts gX5_rowsToPresent_X0_standingAfter rfl rfl rfl (by decide +kernel) ⟨by rw [← hRM]; first | decide | (dsimp only; omega), by rw [← hRM]; first | decide | (dsimp only; omega)⟩) hP hK [1, 2, 3, 4, 5] rfl [0, 1, 2] rfl zN_bl (zN_go hE) (q0 := 0) rfl rfl rfl rfl hl.1 rfl (Nat.le_of_ble_eq_true rfl) dX5_rowsToPresent_40 ⟨Nat.zero_le _, Nat.zero_le _⟩ ?_
      refine lv_istore_n (lv' := [(3, .int (zI (pk (goS so le ri ti lo 0 9 st (n - 1)).1))), (0, .ref w0), (1, .int (zI mb)), (2, .int (zI (pk st)))]) hx hb dX5_rowsToPresent_43 rfl hl (by decide) rfl (fun ls hl => ?_)
      refine lv_aload_n hx hb dX5_rowsToPresent_44 rfl (lv_at hl 1 rfl) ?_
      refine va_get (D := (dC, dI)) (ci := 4) (v := .ref h0) (C := RX5) (T := TX5) (N := 12) hx hb hts in_X5 hown hK hP 0 rfl rfl 1 (by decide) w_1 (fun _ h9 => h9) rfl dX5_rowsToPresent_45 ?_
      refine lv_iload_n hx hb dX5_rowsToPresent_48 rfl (lv_at hl 3 rfl) ?_
      refine zv_iconst hx hb dX5_rowsToPresent_49 ?_
      refine lv_aload_n hx hb dX5_rowsToPresent_50 rfl (lv_at hl 1 rfl) ?_
      refine va_get (D := (dC, dI)) (ci := 4) (v := .ref p0) (C := RX5) (T := TX5) (N := 12) hx hb hts in_X5 hown hK hP 0 rfl rfl 3 (by decide) w_0 (fun _ h9 => h9) rfl dX5_rowsToPresent_51 ?_
      refine va_getN (D := (dC, dI)) (ci := 1) (v := .int (zI lo)) (C := RX1) (T := TX1) (N := 6) hx hb hts in_X1 hown hK hP 6 rfl rfl 1 (by decide) n_116 (fun _ h9 => h9) rfl dX5_rowsToPresent_54 ?_
      refine zv_callRV (As := [.int (zI (pk st)), .int (zI 1), .int (zI lo)]) (rest := []) ⟨hx, hb, hml, hown, hts⟩ (c_X0_standingAfter l dC dI cI cB cZ h0 h1 h2 h3 h4 n so le ri ti st 1 lo (by exact hh) (by omega) (by exact hs) (by omega) (by omega)) (cwV 3 hts gX5_rowsToPresent_X0_standingAfter rfl rfl rfl (by decide +kernel) ⟨by rw [← hRM]; first | decide | (dsimp only; omega), by rw [← hRM]; first | decide | (dsimp only; omega)⟩) hP hK [1, 2, 3, 4, 5] rfl [0, 1, 2] rfl zN_bl (zN_go hE) (q0 := 0) rfl rfl rfl rfl hl.1 rfl (Nat.le_of_ble_eq_true rfl) dX5_rowsToPresent_57 ⟨Nat.zero_le _, Nat.zero_le _⟩ ?_
      refine lv_istore (lv' := [(4, .int (zI (pk (goS so le ri ti lo 1 9 st (n - 1)).1))), (3, .int (zI (pk (goS so le ri ti lo 0 9 st (n - 1)).1))), (0, .ref w0), (1, .int (zI mb)), (2, .int (zI (pk st)))]) hx hb dX5_rowsToPresent_60 hl (by decide) rfl (fun ls hl => ?_)
      refine lv_aload_n hx hb dX5_rowsToPresent_62 rfl (lv_at hl 2 rfl) ?_
      refine lv_iload_n hx hb dX5_rowsToPresent_63 rfl (lv_at hl 3 rfl) ?_
      refine zv_iconst hx hb dX5_rowsToPresent_64 ?_
      refine zv_isub hx hb dX5_rowsToPresent_65 ?_
      refine lv_iload_n hx hb dX5_rowsToPresent_66 rfl (lv_at hl 1 rfl) ?_
      refine zv_callRV (As := [.int (zI (mb - 1)), .int (zI (pk (goS so le ri ti lo 0 9 st (n - 1)).1))]) (rest := []) ⟨hx, hb, hml, hown, hts⟩ (IH (d - 1) (by omega) (mb - 1) ((goS so le ri ti lo 0 9 st (n - 1)).1) (by omega) (by exact g1)) (cwV 2 hts gX5_rowsToPresent_X5_rowsToPresent rfl rfl rfl (by decide +kernel) ⟨by rw [← hRM]; first | decide | (dsimp only; omega), by rw [← hRM]; first | decide | (dsimp only; omega)⟩) hP hK [0, 1, 2, 3, 4, 5, 6] rfl [0, 1, 2] rfl zN_bl (zN_go hE) (q0 := 0) rfl rfl rfl rfl hl.1 rfl (Nat.le_of_ble_eq_true rfl) dX5_rowsToPresent_67 ⟨Nat.zero_le _, Nat.zero_le _⟩ ?_
      refine lv_istore (lv' := [(5, .int (zI (coS so le ri ti lo n sp (mb - 1).toNat ((goS so le ri ti lo 0 9 st (n - 1)).1)))), (4, .int (zI (pk (goS so le ri ti lo 1 9 st (n - 1)).1))), (3, .int (zI (pk (goS so le ri ti lo 0 9 st (n - 1)).1))), (0, .ref w0), (1, .int (zI mb)), (2, .int (zI (pk st)))]) hx hb dX5_rowsToPresent_70 hl (by decide) rfl (fun ls hl => ?_)
      refine lv_iload hx hb dX5_rowsToPresent_72 (lv_at hl 0 rfl) ?_
      refine lv_iload hx hb dX5_rowsToPresent_74 (lv_at hl 1 rfl) ?_
      refine lv_iload_n hx hb dX5_rowsToPresent_76 rfl (lv_at hl 2 rfl) ?_
      refine zv_icmp_ne (tgt := 85) hx hb (by omega) (by omega) dX5_rowsToPresent_77 (by decide) (fun c_77 => ?_) (fun c_77 => ?_)
      · refine lv_aload_n hx hb dX5_rowsToPresent_85 rfl (lv_at hl 3 rfl) ?_
        refine lv_iload_n hx hb dX5_rowsToPresent_86 rfl (lv_at hl 4 rfl) ?_
        refine zv_iconst hx hb dX5_rowsToPresent_87 ?_
        refine zv_isub hx hb dX5_rowsToPresent_88 ?_
        refine lv_iload hx hb dX5_rowsToPresent_89 (lv_at hl 1 rfl) ?_
        refine zv_callRV (As := [.int (zI (mb - 1)), .int (zI (pk (goS so le ri ti lo 1 9 st (n - 1)).1))]) (rest := [.int (zI (coS so le ri ti lo n sp (mb - 1).toNat ((goS so le ri ti lo 0 9 st (n - 1)).1)))]) ⟨hx, hb, hml, hown, hts⟩ (IH (d - 1) (by omega) (mb - 1) ((goS so le ri ti lo 1 9 st (n - 1)).1) (by omega) (by exact g3)) (cwV 2 hts gX5_rowsToPresent_X5_rowsToPresent rfl rfl rfl (by decide +kernel) ⟨by rw [← hRM]; first | decide | (dsimp only; omega), by rw [← hRM]; first | decide | (dsimp only; omega)⟩) hP hK [0, 1, 2, 3, 4, 5, 6] rfl [0, 1, 2] rfl zN_bl (zN_go hE) (q0 := 0) rfl rfl rfl rfl hl.1 rfl (Nat.le_of_ble_eq_true rfl) dX5_rowsToPresent_91 ⟨Nat.zero_le _, Nat.zero_le _⟩ ?_
        refine zv_iadd hx hb dX5_rowsToPresent_94 ?_
        rw [← hQQ]
        exact zr_iret hx hb hr hlocks (congrArg zI (show (coS so le ri ti lo n sp (mb - 1).toNat ((goS so le ri ti lo 0 9 st (n - 1)).1)) + (coS so le ri ti lo n sp (mb - 1).toNat ((goS so le ri ti lo 1 9 st (n - 1)).1)) = coS so le ri ti lo n sp mb.toNat st from by (rw [coS_s (mb := mb) (st := st) (by omega)]) <;> (rw [coS_cong hh hn1 (mb - 1).toNat (goS so le ri ti lo 1 9 st (n - 1)).1 (goS so le ri ti lo 0 9 st (n - 1)).1 (pk_inj (sOk_s7 hh g3) (sOk_s7 hh g1) c_77)]))) dX5_rowsToPresent_95
      · refine lv_iload hx hb dX5_rowsToPresent_80 (lv_at hl 0 rfl) ?_
        refine lv_goto (tgt := 94) hx hb dX5_rowsToPresent_82 (by decide) ?_
        refine zv_iadd hx hb dX5_rowsToPresent_94 ?_
        rw [← hQQ]
        exact zr_iret hx hb hr hlocks (congrArg zI (show (coS so le ri ti lo n sp (mb - 1).toNat ((goS so le ri ti lo 0 9 st (n - 1)).1)) + (coS so le ri ti lo n sp (mb - 1).toNat ((goS so le ri ti lo 0 9 st (n - 1)).1)) = coS so le ri ti lo n sp mb.toNat st from by (rw [coS_s (mb := mb) (st := st) (by omega)]) <;> (rw [coS_cong hh hn1 (mb - 1).toNat (goS so le ri ti lo 1 9 st (n - 1)).1 (goS so le ri ti lo 0 9 st (n - 1)).1 (pk_inj (sOk_s7 hh g3) (sOk_s7 hh g1) c_77)]))) dX5_rowsToPresent_95
    · exfalso; omega
theorem c_X5_rowsToPresent (l : Launch) (dC : Nat → ClassId) (dI : Nat → Nat → Nat) (cI cB cZ : ClassId) (w0 : Nat) (x0 : Nat) (h0 : Nat) (g0 : Nat) (p0 : Nat) (q0 : Nat) (r0 : Nat) (fk : Int) (sk : Int) (t0 : Nat) (b1 : Nat) (b2 : Nat) (tr : Int64) (h1 : Nat) (h2 : Nat) (h3 : Nat) (h4 : Nat) (n : Int) (so : Int → Int) (le : Int → Int) (ri : Int → Int) (ti : Int → Int) (p1 : Nat) (p2 : Nat) (sp : Int → Int) (lo : Int) (li : Int) (kn : Int) (mb : Int) (st : Int → Int) (hh : hOk n so le ri ti) (hn1 : 1 ≤ n) (hlo : -9 ≤ lo ∧ lo ≤ 8) (h7 : s7 sp) (hmb : 0 ≤ mb ∧ mb ≤ 9) (hs : sOk n so ti st) : MetR l yX5_rowsToPresent wsX5_rowsToPresent ({ frames := 12, cells := 0, slots := 0, locals := 300 }) (dC, dI) vwCl (zT cI cB cZ) zN [(w0, .inr (4, [.ref x0, .ref h0, .ref g0, .ref p0, .ref q0, .ref r0, .int (zI fk), .int (zI sk), .ref t0, .ref b1, .ref b2, .long tr])), (h0, .inr (0, [.int (zI n), .ref h1, .ref h2, .ref h3, .ref h4])), (h1, .inl (cI, 9, .inl (zA so))), (h2, .inl (cI, 9, .inl (zA le))), (h3, .inl (cI, 9, .inl (zA ri))), (h4, .inl (cI, 9, .inl (zA ti))), (p0, .inr (1, [.int (zI (pk sp)), .int (zI lo), .int (zI li), .int (zI kn), .ref p1, .ref p2]))] [.ref w0, .int (zI mb), .int (zI (pk st))] (zI (coS so le ri ti lo n sp mb.toNat st)) := by
  have key : ∀ (d : Nat) (mb : Int) (st : Int → Int), 0 ≤ mb ∧ mb ≤ 9 ∧ mb ≤ (d : Int) → sOk n so ti st → MetR l yX5_rowsToPresent wsX5_rowsToPresent ({ frames := 3 + d, cells := 0, slots := 0, locals := 75 + 25 * d }) (dC, dI) vwCl (zT cI cB cZ) zN [(w0, .inr (4, [.ref x0, .ref h0, .ref g0, .ref p0, .ref q0, .ref r0, .int (zI fk), .int (zI sk), .ref t0, .ref b1, .ref b2, .long tr])), (h0, .inr (0, [.int (zI n), .ref h1, .ref h2, .ref h3, .ref h4])), (h1, .inl (cI, 9, .inl (zA so))), (h2, .inl (cI, 9, .inl (zA le))), (h3, .inl (cI, 9, .inl (zA ri))), (h4, .inl (cI, 9, .inl (zA ti))), (p0, .inr (1, [.int (zI (pk sp)), .int (zI lo), .int (zI li), .int (zI kn), .ref p1, .ref p2]))] [.ref w0, .int (zI mb), .int (zI (pk st))] (zI (coS so le ri ti lo n sp mb.toNat st)) := by
    intro d
    induction d using Nat.strongRecOn with
    | ind d ih => intro mb st hmb hs; exact c_X5_rowsToPresent_d l dC dI cI cB cZ w0 x0 h0 g0 p0 q0 r0 fk sk t0 b1 b2 tr h1 h2 h3 h4 n so le ri ti p1 p2 sp lo li kn hh hn1 hlo h7 trivial trivial d (fun d' h mb st hmb hs => ih d' h mb st hmb hs) mb st hmb hs
  exact key 9 mb st ⟨hmb.1, hmb.2, hmb.2⟩ hs
