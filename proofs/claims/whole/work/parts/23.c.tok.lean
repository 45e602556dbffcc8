set_option maxHeartbeats 4000000 in
set_option maxRecDepth 100000 in
theorem c_X3_takeNumber (l : Launch) (dC : Nat → ClassId) (dI : Nat → Nat → Nat) (cI cB cZ : ClassId) (x0 : Nat) (x1 : Nat) (ln : Int) (pl : Int) (ft : Int) (tk : Int) (tS : Int) (tv : Int) (bys : Int → Int) (adK : Nat → Nat) (adV : Nat → Nat) (kt : Nat) (lb : Int) (ub : Int) (hln : 0 ≤ ln ∧ ln ≤ 200) (hby : ∀ k : Int, 0 ≤ k → k < ln → 0 ≤ bys k ∧ bys k ≤ 255) (hpl : ft = -1 → 0 ≤ pl ∧ pl ≤ ln) (hft : -1 ≤ ft ∧ ft ≤ 200) (hlu : -9 ≤ lb ∧ lb ≤ 9 ∧ -9 ≤ ub ∧ ub ≤ 9) : MetX (S := (Int) × (Int) × (Int) × (Int) × (Int) × (Int)) l yX3_takeNumber wsX3_takeNumber ({ frames := 7, cells := 0, slots := 0, locals := 148 }) (dC, dI) vwCl (zT cI cB cZ) (zX adK adV kt) [(x0, .inr (2, [.int (zI ln), .ref x1, .int (zI pl), .int (zI ft), .int (zI tk), .int (zI tS), .int (zI tv)])), (x1, .inl (cI, 200, .inl (zA bys)))] [.ref x0, .int (zI lb), .int (zI ub)] (fun u => some (.int (zI u.2.2.2.2.2))) (fun u => [(x0, .inr (2, [.int (zI ln), .ref x1, .int (zI u.1), .int (zI u.2.1), .int (zI u.2.2.1), .int (zI u.2.2.2.1), .int (zI u.2.2.2.2.1)])), (x1, .inl (cI, 200, .inl (zA bys)))]) (fun u => (u.2.1 = (tN ln bys ft pl lb ub).1) ∧ (u.2.1 = -1 → u.1 = (tN ln bys ft pl lb ub).2.1 ∧ u.2.2.2.2.2 = (tN ln bys ft pl lb ub).2.2)) := by
  refine MetX.intro (cc := cX3_takeNumber) (maxL := 3) (ret := (some .int)) (by decide) rfl (Nat.le_of_ble_eq_true rfl) ?_
  intro p e s m args below meth c A hx hb hr hlocks hml hts hown hP hK hD hS hA hE ls hl
  have hown : s.vm.findClass RX3 = some m.cls := hown
  have hEX := hE
  have hE : zN s := hEX.1
  have hl : lv_has ls 3 [(0, .ref x0), (1, .int (zI lb)), (2, .int (zI ub))] := hl
  generalize hRM : ({ frames := 7, cells := 0, slots := 0, locals := 148 } : Room) = RM
  generalize hQQ : MQ below (QW (S := (Int) × (Int) × (Int) × (Int) × (Int) × (Int)) (dC, dI) vwCl A (fun u => some (.int (zI u.2.2.2.2.2))) (fun u => [(x0, .inr (2, [.int (zI ln), .ref x1, .int (zI u.1), .int (zI u.2.1), .int (zI u.2.2.1), .int (zI u.2.2.2.1), .int (zI u.2.2.2.2.1)])), (x1, .inl (cI, 200, .inl (zA bys)))]) (fun u => (u.2.1 = (tN ln bys ft pl lb ub).1) ∧ (u.2.1 = -1 → u.1 = (tN ln bys ft pl lb ub).2.1 ∧ u.2.2.2.2.2 = (tN ln bys ft pl lb ub).2.2))) args s 0 0 A = QQ
  have in_X3 : ∀ w ∈ wsX30, w ∈ wsX3_takeNumber := by decide +kernel
  have w_0 := hts (.fieldLink RX3 27 "WallMarbles$Text" "fault" "I") (by decide +kernel)
  have w_1 := hts (.fieldLink RX3 33 "WallMarbles$Text" "token" "I") (by decide +kernel)
  have w_2 := hts (.fieldLink RX3 40 "WallMarbles$Text" "tokenStart" "I") (by decide +kernel)
  have w_3 := hts (.fieldLink RX3 43 "WallMarbles$Text" "value" "I") (by decide +kernel)
  refine lv_aload_n hx hb dX3_takeNumber_0 rfl (lv_at hl 0 rfl) ?_
  refine va_get (D := (dC, dI)) (ci := 2) (v := .int (zI ft)) (C := RX3) (T := TX3) (N := 7) hx hb hts in_X3 hown hK hP 0 rfl rfl 3 (by decide) w_0 (fun _ h9 => h9) rfl dX3_takeNumber_1 ?_
  refine zv_iconst hx hb dX3_takeNumber_4 ?_
  refine zv_icmp_eq (tgt := 10) hx hb (by omega) (by omega) dX3_takeNumber_5 (by decide) (fun c_5 => ?_) (fun c_5 => ?_)
  · have hp1 := hpl c_5
    have hks := tkS_r (bys := bys) hp1.2
    refine lv_aload_n hx hb dX3_takeNumber_10 rfl (lv_at hl 0 rfl) ?_
    refine zv_callXV (As := []) (rest := []) (ws2 := fun u => [(x0, .inr (2, [.int (zI ln), .ref x1, .int (zI u.1), .int (zI ft), .int (zI u.2.1), .int (zI u.2.2.1), .int (zI u.2.2.2)])), (x1, .inl (cI, 200, .inl (zA bys)))]) ⟨hx, hb, hml, hown, hts⟩ (c_X3_nextToken l dC dI cI cB cZ x0 x1 ln pl ft tk tS tv bys adK adV kt (by omega) (by exact hby) (by omega)) (cwV 0 hts gX3_takeNumber_X3_nextToken rfl rfl rfl (by decide +kernel) ⟨by rw [← hRM]; first | decide | (dsimp only; omega), by rw [← hRM]; first | decide | (dsimp only; omega)⟩) hP hD hS hA hK [0, 1] rfl (by decide) [0, 1, 2] rfl zX_bl (zX_go hEX hS) (fun _ => rfl) (fun _ => rfl) (q0 := 0) rfl rfl rfl rfl hl.1 rfl (Nat.le_of_ble_eq_true rfl) dX3_takeNumber_11 ⟨Nat.zero_le _, Nat.zero_le _⟩ (fun u H locs hpo hP hD hS => ?_)
    obtain ⟨pl2_11, tk2_11, tS2_11, tv2_11⟩ := u
    have hp0_11 : tS2_11 = (tkS ln bys pl) := hpo.1
    have hp1_11 : tk2_11 = ctk (kK ln bys (tkS ln bys pl)) := hpo.2.1
    have hp2_11 : kK ln bys (tkS ln bys pl) ≠ 7 → pl2_11 = kE ln bys (tkS ln bys pl) ∧ tv2_11 = cVl ln bys (tkS ln bys pl) := hpo.2.2
    have hP : va_P (dC, dI) vwCl [(x0, .inr (2, [.int (zI ln), .ref x1, .int (zI pl2_11), .int (zI ft), .int (zI tk2_11), .int (zI tS2_11), .int (zI tv2_11)])), (x1, .inl (cI, 200, .inl (zA bys)))] H := hP
    have hD : va_D A [(x0, .inr (2, [.int (zI ln), .ref x1, .int (zI pl2_11), .int (zI ft), .int (zI tk2_11), .int (zI tS2_11), .int (zI tv2_11)])), (x1, .inl (cI, 200, .inl (zA bys)))] := hD
    refine W.eq (g2 := F0 m 14 ls []) rfl ?_
    have hkk := kK_r ln bys (tkS ln bys pl)
    have hct := ctk_r hkk
    refine lv_aload_n hx hb dX3_takeNumber_14 rfl (lv_at hl 0 rfl) ?_
    refine va_get (D := (dC, dI)) (ci := 2) (v := .int (zI tk2_11)) (C := RX3) (T := TX3) (N := 7) hx hb hts in_X3 hown hK hP 0 rfl rfl 4 (by decide) w_1 (fun _ h9 => h9) rfl dX3_takeNumber_15 ?_
    refine zv_iconst hx hb dX3_takeNumber_18 ?_
    refine zv_icmp_ne (tgt := 38) hx hb (by omega) (by omega) dX3_takeNumber_19 (by decide) (fun c_19 => ?_) (fun c_19 => ?_)
    · refine lv_aload_n hx hb dX3_takeNumber_38 rfl (lv_at hl 0 rfl) ?_
      refine lv_aload_n hx hb dX3_takeNumber_39 rfl (lv_at hl 0 rfl) ?_
      refine va_get (D := (dC, dI)) (ci := 2) (v := .int (zI tS2_11)) (C := RX3) (T := TX3) (N := 7) hx hb hts in_X3 hown hK hP 0 rfl rfl 5 (by decide) w_2 (fun _ h9 => h9) rfl dX3_takeNumber_40 ?_
      refine va_put (D := (dC, dI)) (ci := 2) (v := .int (zI tS2_11)) (ty := .int) (C := RX3) (T := TX3) (N := 7) hx hb hts in_X3 tyX3 tyX3_ok nmX3 hown hK hP hD hS 0 rfl rfl 3 (by decide) w_0 (fun _ h9 => h9) rfl (by decide +kernel) rfl rfl (Nat.le_of_ble_eq_true rfl) dX3_takeNumber_43 (fun H locs hP hD hS => ?_)
      have hP : va_P (dC, dI) vwCl [(x0, .inr (2, [.int (zI ln), .ref x1, .int (zI pl2_11), .int (zI tS2_11), .int (zI tk2_11), .int (zI tS2_11), .int (zI tv2_11)])), (x1, .inl (cI, 200, .inl (zA bys)))] H := hP
      have hD : va_D A [(x0, .inr (2, [.int (zI ln), .ref x1, .int (zI pl2_11), .int (zI tS2_11), .int (zI tk2_11), .int (zI tS2_11), .int (zI tv2_11)])), (x1, .inl (cI, 200, .inl (zA bys)))] := hD
      refine lv_aload_n hx hb dX3_takeNumber_46 rfl (lv_at hl 0 rfl) ?_
      refine va_get (D := (dC, dI)) (ci := 2) (v := .int (zI tv2_11)) (C := RX3) (T := TX3) (N := 7) hx hb hts in_X3 hown hK hP 0 rfl rfl 6 (by decide) w_3 (fun _ h9 => h9) rfl dX3_takeNumber_47 ?_
      rw [← hQQ]
      exact zw_iret hx hb hr hlocks (pl2_11, tS2_11, tk2_11, tS2_11, tv2_11, tv2_11) rfl ⟨(by first | (rw [tN_y c_5 ⟨k5, by omega, by omega⟩]; exact c_5) | (rw [tN_n c_5 (by intro z; first | (rw [z.1] at hp1_11; exact c_19 hp1_11) | (have := z.2; omega))]; exact hp0_11)), (by intro z; first | (rw [tN_y c_5 ⟨k5, by omega, by omega⟩]; exact ⟨e1, by rw [e2, hv]⟩) | (exfalso; have z2 : tS2_11 = -1 := z; omega))⟩ hP hS dX3_takeNumber_50
    · have k5 : kK ln bys (tkS ln bys pl) = 5 := ctk_2 hkk (by omega)
      obtain ⟨e1, e2⟩ := hp2_11 (by omega)
      have hv := cVl_5 k5
      have hvr := kV_b hby (show 0 ≤ tkS ln bys pl by omega) hks.2
      refine lv_aload_n hx hb dX3_takeNumber_22 rfl (lv_at hl 0 rfl) ?_
      refine va_get (D := (dC, dI)) (ci := 2) (v := .int (zI tv2_11)) (C := RX3) (T := TX3) (N := 7) hx hb hts in_X3 hown hK hP 0 rfl rfl 6 (by decide) w_3 (fun _ h9 => h9) rfl dX3_takeNumber_23 ?_
      refine lv_iload_n hx hb dX3_takeNumber_26 rfl (lv_at hl 1 rfl) ?_
      refine zv_icmp_lt (tgt := 38) hx hb (by omega) (by omega) dX3_takeNumber_27 (by decide) (fun c_27 => ?_) (fun c_27 => ?_)
      · refine lv_aload_n hx hb dX3_takeNumber_38 rfl (lv_at hl 0 rfl) ?_
        refine lv_aload_n hx hb dX3_takeNumber_39 rfl (lv_at hl 0 rfl) ?_
        refine va_get (D := (dC, dI)) (ci := 2) (v := .int (zI tS2_11)) (C := RX3) (T := TX3) (N := 7) hx hb hts in_X3 hown hK hP 0 rfl rfl 5 (by decide) w_2 (fun _ h9 => h9) rfl dX3_takeNumber_40 ?_
        refine va_put (D := (dC, dI)) (ci := 2) (v := .int (zI tS2_11)) (ty := .int) (C := RX3) (T := TX3) (N := 7) hx hb hts in_X3 tyX3 tyX3_ok nmX3 hown hK hP hD hS 0 rfl rfl 3 (by decide) w_0 (fun _ h9 => h9) rfl (by decide +kernel) rfl rfl (Nat.le_of_ble_eq_true rfl) dX3_takeNumber_43 (fun H locs hP hD hS => ?_)
        have hP : va_P (dC, dI) vwCl [(x0, .inr (2, [.int (zI ln), .ref x1, .int (zI pl2_11), .int (zI tS2_11), .int (zI tk2_11), .int (zI tS2_11), .int (zI tv2_11)])), (x1, .inl (cI, 200, .inl (zA bys)))] H := hP
        have hD : va_D A [(x0, .inr (2, [.int (zI ln), .ref x1, .int (zI pl2_11), .int (zI tS2_11), .int (zI tk2_11), .int (zI tS2_11), .int (zI tv2_11)])), (x1, .inl (cI, 200, .inl (zA bys)))] := hD
        refine lv_aload_n hx hb dX3_takeNumber_46 rfl (lv_at hl 0 rfl) ?_
        refine va_get (D := (dC, dI)) (ci := 2) (v := .int (zI tv2_11)) (C := RX3) (T := TX3) (N := 7) hx hb hts in_X3 hown hK hP 0 rfl rfl 6 (by decide) w_3 (fun _ h9 => h9) rfl dX3_takeNumber_47 ?_
        rw [← hQQ]
        exact zw_iret hx hb hr hlocks (pl2_11, tS2_11, tk2_11, tS2_11, tv2_11, tv2_11) rfl ⟨(by first | (rw [tN_y c_5 ⟨k5, by omega, by omega⟩]; exact c_5) | (rw [tN_n c_5 (by intro z; first | (rw [z.1] at hp1_11; exact c_19 hp1_11) | (have := z.2; omega))]; exact hp0_11)), (by intro z; first | (rw [tN_y c_5 ⟨k5, by omega, by omega⟩]; exact ⟨e1, by rw [e2, hv]⟩) | (exfalso; have z2 : tS2_11 = -1 := z; omega))⟩ hP hS dX3_takeNumber_50
      · refine lv_aload_n hx hb dX3_takeNumber_30 rfl (lv_at hl 0 rfl) ?_
        refine va_get (D := (dC, dI)) (ci := 2) (v := .int (zI tv2_11)) (C := RX3) (T := TX3) (N := 7) hx hb hts in_X3 hown hK hP 0 rfl rfl 6 (by decide) w_3 (fun _ h9 => h9) rfl dX3_takeNumber_31 ?_
        refine lv_iload_n hx hb dX3_takeNumber_34 rfl (lv_at hl 2 rfl) ?_
        refine zv_icmp_le (tgt := 46) hx hb (by omega) (by omega) dX3_takeNumber_35 (by decide) (fun c_35 => ?_) (fun c_35 => ?_)
        · refine lv_aload_n hx hb dX3_takeNumber_46 rfl (lv_at hl 0 rfl) ?_
          refine va_get (D := (dC, dI)) (ci := 2) (v := .int (zI tv2_11)) (C := RX3) (T := TX3) (N := 7) hx hb hts in_X3 hown hK hP 0 rfl rfl 6 (by decide) w_3 (fun _ h9 => h9) rfl dX3_takeNumber_47 ?_
          rw [← hQQ]
          exact zw_iret hx hb hr hlocks (pl2_11, ft, tk2_11, tS2_11, tv2_11, tv2_11) rfl ⟨(by first | (rw [tN_y c_5 ⟨k5, by omega, by omega⟩]; exact c_5) | (rw [tN_n c_5 (by intro z; first | (rw [z.1] at hp1_11; exact c_19 hp1_11) | (have := z.2; omega))]; exact hp0_11)), (by intro z; first | (rw [tN_y c_5 ⟨k5, by omega, by omega⟩]; exact ⟨e1, by rw [e2, hv]⟩) | (exfalso; have z2 : tS2_11 = -1 := z; omega))⟩ hP hS dX3_takeNumber_50
        · refine lv_aload_n hx hb dX3_takeNumber_38 rfl (lv_at hl 0 rfl) ?_
          refine lv_aload_n hx hb dX3_takeNumber_39 rfl (lv_at hl 0 rfl) ?_
          refine va_get (D := (dC, dI)) (ci := 2) (v := .int (zI tS2_11)) (C := RX3) (T := TX3) (N := 7) hx hb hts in_X3 hown hK hP 0 rfl rfl 5 (by decide) w_2 (fun _ h9 => h9) rfl dX3_takeNumber_40 ?_
          refine va_put (D := (dC, dI)) (ci := 2) (v := .int (zI tS2_11)) (ty := .int) (C := RX3) (T := TX3) (N := 7) hx hb hts in_X3 tyX3 tyX3_ok nmX3 hown hK hP hD hS 0 rfl rfl 3 (by decide) w_0 (fun _ h9 => h9) rfl (by decide +kernel) rfl rfl (Nat.le_of_ble_eq_true rfl) dX3_takeNumber_43 (fun H locs hP hD hS => ?_)
          have hP : va_P (dC, dI) vwCl [(x0, .inr (2, [.int (zI ln), .ref x1, .int (zI pl2_11), .int (zI tS2_11), .int (zI tk2_11), .int (zI tS2_11), .int (zI tv2_11)])), (x1, .inl (cI, 200, .inl (zA bys)))] H := hP
          have hD : va_D A [(x0, .inr (2, [.int (zI ln), .ref x1, .int (zI pl2_11), .int (zI tS2_11), .int (zI tk2_11), .int (zI tS2_11), .int (zI tv2_11)])), (x1, .inl (cI, 200, .inl (zA bys)))] := hD
          refine lv_aload_n hx hb dX3_takeNumber_46 rfl (lv_at hl 0 rfl) ?_
          refine va_get (D := (dC, dI)) (ci := 2) (v := .int (zI tv2_11)) (C := RX3) (T := TX3) (N := 7) hx hb hts in_X3 hown hK hP 0 rfl rfl 6 (by decide) w_3 (fun _ h9 => h9) rfl dX3_takeNumber_47 ?_
          rw [← hQQ]
          exact zw_iret hx hb hr hlocks (pl2_11, tS2_11, tk2_11, tS2_11, tv2_11, tv2_11) rfl ⟨(by first | (rw [tN_y c_5 ⟨k5, by omega, by omega⟩]; exact c_5) | (rw [tN_n c_5 (by intro z; first | (rw [z.1] at hp1_11; exact c_19 hp1_11) | (have := z.2; omega))]; exact hp0_11)), (by intro z; first | (rw [tN_y c_5 ⟨k5, by omega, by omega⟩]; exact ⟨e1, by rw [e2, hv]⟩) | (exfalso; have z2 : tS2_11 = -1 := z; omega))⟩ hP hS dX3_takeNumber_50
  · refine zv_iconst hx hb dX3_takeNumber_8 ?_
    rw [← hQQ]
    exact zw_iret hx hb hr hlocks (pl, ft, tk, tS, tv, 0) rfl ⟨(by rw [tN_f c_5]), (by intro z; exact absurd z c_5)⟩ hP hS dX3_takeNumber_9
set_option maxHeartbeats 4000000 in
set_option maxRecDepth 100000 in
theorem c_X3_takeItemEnd (l : Launch) (dC : Nat → ClassId) (dI : Nat → Nat → Nat) (cI cB cZ : ClassId) (x0 : Nat) (x1 : Nat) (ln : Int) (pl : Int) (ft : Int) (tk : Int) (tS : Int) (tv : Int) (bys : Int → Int) (adK : Nat → Nat) (adV : Nat → Nat) (kt : Nat) (hln : 0 ≤ ln ∧ ln ≤ 200) (hby : ∀ k : Int, 0 ≤ k → k < ln → 0 ≤ bys k ∧ bys k ≤ 255) (hpl : ft = -1 → 0 ≤ pl ∧ pl ≤ ln) (hft : -1 ≤ ft ∧ ft ≤ 200) : MetX (S := (Int) × (Int) × (Int) × (Int) × (Int)) l yX3_takeItemEnd wsX3_takeItemEnd ({ frames := 7, cells := 0, slots := 0, locals := 148 }) (dC, dI) vwCl (zT cI cB cZ) (zX adK adV kt) [(x0, .inr (2, [.int (zI ln), .ref x1, .int (zI pl), .int (zI ft), .int (zI tk), .int (zI tS), .int (zI tv)])), (x1, .inl (cI, 200, .inl (zA bys)))] [.ref x0] (fun u => none) (fun u => [(x0, .inr (2, [.int (zI ln), .ref x1, .int (zI u.1), .int (zI u.2.1), .int (zI u.2.2.1), .int (zI u.2.2.2.1), .int (zI u.2.2.2.2)])), (x1, .inl (cI, 200, .inl (zA bys)))]) (fun u => (u.2.1 = (tEn ln bys ft pl).1) ∧ (u.2.1 = -1 → u.1 = (tEn ln bys ft pl).2)) := by
  refine MetX.intro (cc := cX3_takeItemEnd) (maxL := 1) (ret := none) (by decide) rfl (Nat.le_of_ble_eq_true rfl) ?_
  intro p e s m args below meth c A hx hb hr hlocks hml hts hown hP hK hD hS hA hE ls hl
  have hown : s.vm.findClass RX3 = some m.cls := hown
  have hEX := hE
  have hE : zN s := hEX.1
  have hl : lv_has ls 1 [(0, .ref x0)] := hl
  generalize hRM : ({ frames := 7, cells := 0, slots := 0, locals := 148 } : Room) = RM
  generalize hQQ : MQ below (QW (S := (Int) × (Int) × (Int) × (Int) × (Int)) (dC, dI) vwCl A (fun u => none) (fun u => [(x0, .inr (2, [.int (zI ln), .ref x1, .int (zI u.1), .int (zI u.2.1), .int (zI u.2.2.1), .int (zI u.2.2.2.1), .int (zI u.2.2.2.2)])), (x1, .inl (cI, 200, .inl (zA bys)))]) (fun u => (u.2.1 = (tEn ln bys ft pl).1) ∧ (u.2.1 = -1 → u.1 = (tEn ln bys ft pl).2))) args s 0 0 A = QQ
  have in_X3 : ∀ w ∈ wsX30, w ∈ wsX3_takeItemEnd := by decide +kernel
  have w_0 := hts (.fieldLink RX3 27 "WallMarbles$Text" "fault" "I") (by decide +kernel)
  have w_1 := hts (.fieldLink RX3 33 "WallMarbles$Text" "token" "I") (by decide +kernel)
  have w_2 := hts (.fieldLink RX3 40 "WallMarbles$Text" "tokenStart" "I") (by decide +kernel)
  refine lv_aload_n hx hb dX3_takeItemEnd_0 rfl (lv_at hl 0 rfl) ?_
  refine va_get (D := (dC, dI)) (ci := 2) (v := .int (zI ft)) (C := RX3) (T := TX3) (N := 7) hx hb hts in_X3 hown hK hP 0 rfl rfl 3 (by decide) w_0 (fun _ h9 => h9) rfl dX3_takeItemEnd_1 ?_
  refine zv_iconst hx hb dX3_takeItemEnd_4 ?_
  refine zv_icmp_eq (tgt := 9) hx hb (by omega) (by omega) dX3_takeItemEnd_5 (by decide) (fun c_5 => ?_) (fun c_5 => ?_)
  · have hp1 := hpl c_5
    have hks := tkS_r (bys := bys) hp1.2
    refine lv_aload_n hx hb dX3_takeItemEnd_9 rfl (lv_at hl 0 rfl) ?_
    refine zv_callXV (As := []) (rest := []) (ws2 := fun u => [(x0, .inr (2, [.int (zI ln), .ref x1, .int (zI u.1), .int (zI ft), .int (zI u.2.1), .int (zI u.2.2.1), .int (zI u.2.2.2)])), (x1, .inl (cI, 200, .inl (zA bys)))]) ⟨hx, hb, hml, hown, hts⟩ (c_X3_nextToken l dC dI cI cB cZ x0 x1 ln pl ft tk tS tv bys adK adV kt (by omega) (by exact hby) (by omega)) (cwV 0 hts gX3_takeItemEnd_X3_nextToken rfl rfl rfl (by decide +kernel) ⟨by rw [← hRM]; first | decide | (dsimp only; omega), by rw [← hRM]; first | decide | (dsimp only; omega)⟩) hP hD hS hA hK [0, 1] rfl (by decide) [0, 1, 2] rfl zX_bl (zX_go hEX hS) (fun _ => rfl) (fun _ => rfl) (q0 := 0) rfl rfl rfl rfl hl.1 rfl (Nat.le_of_ble_eq_true rfl) dX3_takeItemEnd_10 ⟨Nat.zero_le _, Nat.zero_le _⟩ (fun u H locs hpo hP hD hS => ?_)
    obtain ⟨pl2_10, tk2_10, tS2_10, tv2_10⟩ := u
    have hp0_10 : tS2_10 = (tkS ln bys pl) := hpo.1
    have hp1_10 : tk2_10 = ctk (kK ln bys (tkS ln bys pl)) := hpo.2.1
    have hp2_10 : kK ln bys (tkS ln bys pl) ≠ 7 → pl2_10 = kE ln bys (tkS ln bys pl) ∧ tv2_10 = cVl ln bys (tkS ln bys pl) := hpo.2.2
    have hP : va_P (dC, dI) vwCl [(x0, .inr (2, [.int (zI ln), .ref x1, .int (zI pl2_10), .int (zI ft), .int (zI tk2_10), .int (zI tS2_10), .int (zI tv2_10)])), (x1, .inl (cI, 200, .inl (zA bys)))] H := hP
    have hD : va_D A [(x0, .inr (2, [.int (zI ln), .ref x1, .int (zI pl2_10), .int (zI ft), .int (zI tk2_10), .int (zI tS2_10), .int (zI tv2_10)])), (x1, .inl (cI, 200, .inl (zA bys)))] := hD
    refine W.eq (g2 := F0 m 13 ls []) rfl ?_
    have hkk := kK_r ln bys (tkS ln bys pl)
    have hct := ctk_r hkk
    refine lv_aload_n hx hb dX3_takeItemEnd_13 rfl (lv_at hl 0 rfl) ?_
    refine va_get (D := (dC, dI)) (ci := 2) (v := .int (zI tk2_10)) (C := RX3) (T := TX3) (N := 7) hx hb hts in_X3 hown hK hP 0 rfl rfl 4 (by decide) w_1 (fun _ h9 => h9) rfl dX3_takeItemEnd_14 ?_
    refine zv_iconst hx hb dX3_takeItemEnd_17 ?_
    refine zv_icmp_eq (tgt := 29) hx hb (by omega) (by omega) dX3_takeItemEnd_18 (by decide) (fun c_18 => ?_) (fun c_18 => ?_)
    · rw [← hQQ]
      exact zw_vret hx hb hr hlocks (pl2_10, ft, tk2_10, tS2_10, tv2_10) rfl ⟨(by first | (rw [tEn_y c_5 (ctk_3 hkk (by omega))]; exact c_5) | (rw [tEn_n c_5 (by intro z; rw [z] at hp1_10; exact c_18 hp1_10)]; exact hp0_10)), (by intro z; first | (rw [tEn_y c_5 (ctk_3 hkk (by omega))]; exact (hp2_10 (by rw [ctk_3 hkk (by omega)]; decide)).1) | (exfalso; have z2 : tS2_10 = -1 := z; omega))⟩ hP hS dX3_takeItemEnd_29
    · refine lv_aload_n hx hb dX3_takeItemEnd_21 rfl (lv_at hl 0 rfl) ?_
      refine lv_aload_n hx hb dX3_takeItemEnd_22 rfl (lv_at hl 0 rfl) ?_
      refine va_get (D := (dC, dI)) (ci := 2) (v := .int (zI tS2_10)) (C := RX3) (T := TX3) (N := 7) hx hb hts in_X3 hown hK hP 0 rfl rfl 5 (by decide) w_2 (fun _ h9 => h9) rfl dX3_takeItemEnd_23 ?_
      refine va_put (D := (dC, dI)) (ci := 2) (v := .int (zI tS2_10)) (ty := .int) (C := RX3) (T := TX3) (N := 7) hx hb hts in_X3 tyX3 tyX3_ok nmX3 hown hK hP hD hS 0 rfl rfl 3 (by decide) w_0 (fun _ h9 => h9) rfl (by decide +kernel) rfl rfl (Nat.le_of_ble_eq_true rfl) dX3_takeItemEnd_26 (fun H locs hP hD hS => ?_)
      have hP : va_P (dC, dI) vwCl [(x0, .inr (2, [.int (zI ln), .ref x1, .int (zI pl2_10), .int (zI tS2_10), .int (zI tk2_10), .int (zI tS2_10), .int (zI tv2_10)])), (x1, .inl (cI, 200, .inl (zA bys)))] H := hP
      have hD : va_D A [(x0, .inr (2, [.int (zI ln), .ref x1, .int (zI pl2_10), .int (zI tS2_10), .int (zI tk2_10), .int (zI tS2_10), .int (zI tv2_10)])), (x1, .inl (cI, 200, .inl (zA bys)))] := hD
      rw [← hQQ]
      exact zw_vret hx hb hr hlocks (pl2_10, tS2_10, tk2_10, tS2_10, tv2_10) rfl ⟨(by first | (rw [tEn_y c_5 (ctk_3 hkk (by omega))]; exact c_5) | (rw [tEn_n c_5 (by intro z; rw [z] at hp1_10; exact c_18 hp1_10)]; exact hp0_10)), (by intro z; first | (rw [tEn_y c_5 (ctk_3 hkk (by omega))]; exact (hp2_10 (by rw [ctk_3 hkk (by omega)]; decide)).1) | (exfalso; have z2 : tS2_10 = -1 := z; omega))⟩ hP hS dX3_takeItemEnd_29
  · rw [← hQQ]
    exact zw_vret hx hb hr hlocks (pl, ft, tk, tS, tv) rfl ⟨(by rw [tEn_f c_5]), (by intro z; exact absurd z c_5)⟩ hP hS dX3_takeItemEnd_8
