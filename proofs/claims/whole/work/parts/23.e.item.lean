set_option maxHeartbeats 4000000 in
set_option maxRecDepth 100000 in
theorem c_X3_readInto (l : Launch) (dC : Nat → ClassId) (dI : Nat → Nat → Nat) (cI cB cZ : ClassId) (x0 : Nat) (x1 : Nat) (ln : Int) (pl : Int) (ft : Int) (tk : Int) (tS : Int) (tv : Int) (bys : Int → Int) (adK : Nat → Nat) (adV : Nat → Nat) (kt : Nat) (h0 : Nat) (h1 : Nat) (h2 : Nat) (h3 : Nat) (h4 : Nat) (n : Int) (so : Int → Int) (le : Int → Int) (ri : Int → Int) (ti : Int → Int) (hln : 0 ≤ ln ∧ ln ≤ 200) (hby : ∀ k : Int, 0 ≤ k → k < ln → 0 ≤ bys k ∧ bys k ≤ 255) : MetX (S := (Int) × (Int) × (Int) × (Int) × (Int) × (Int) × (Int → Int) × (Int → Int) × (Int → Int) × (Int → Int)) l yX3_readInto wsX3_readInto ({ frames := 9, cells := 0, slots := 0, locals := 195 }) (dC, dI) vwCl (zT cI cB cZ) (zX adK adV kt) [(x0, .inr (2, [.int (zI ln), .ref x1, .int (zI pl), .int (zI ft), .int (zI tk), .int (zI tS), .int (zI tv)])), (x1, .inl (cI, 200, .inl (zA bys))), (h0, .inr (0, [.int (zI n), .ref h1, .ref h2, .ref h3, .ref h4])), (h1, .inl (cI, 9, .inl (zA so))), (h2, .inl (cI, 9, .inl (zA le))), (h3, .inl (cI, 9, .inl (zA ri))), (h4, .inl (cI, 9, .inl (zA ti)))] [.ref x0, .ref h0] (fun u => some (.int (zI ((rdS ln bys 10 0 0 so le ri ti).1)))) (fun u => [(x0, .inr (2, [.int (zI ln), .ref x1, .int (zI u.1), .int (zI u.2.1), .int (zI u.2.2.1), .int (zI u.2.2.2.1), .int (zI u.2.2.2.2.1)])), (x1, .inl (cI, 200, .inl (zA bys))), (h0, .inr (0, [.int (zI u.2.2.2.2.2.1), .ref h1, .ref h2, .ref h3, .ref h4])), (h1, .inl (cI, 9, .inl (zA u.2.2.2.2.2.2.1))), (h2, .inl (cI, 9, .inl (zA u.2.2.2.2.2.2.2.1))), (h3, .inl (cI, 9, .inl (zA u.2.2.2.2.2.2.2.2.1))), (h4, .inl (cI, 9, .inl (zA u.2.2.2.2.2.2.2.2.2)))]) (fun u => ((rdS ln bys 10 0 0 so le ri ti).1 = -1 → u.2.2.2.2.2.1 = (rdS ln bys 10 0 0 so le ri ti).2.1 ∧ u.2.2.2.2.2.2.1 = (rdS ln bys 10 0 0 so le ri ti).2.2.1 ∧ u.2.2.2.2.2.2.2.1 = (rdS ln bys 10 0 0 so le ri ti).2.2.2.1 ∧ u.2.2.2.2.2.2.2.2.1 = (rdS ln bys 10 0 0 so le ri ti).2.2.2.2.1 ∧ u.2.2.2.2.2.2.2.2.2 = (rdS ln bys 10 0 0 so le ri ti).2.2.2.2.2)) := by
  refine MetX.intro (cc := cX3_readInto) (maxL := 3) (ret := (some .int)) (by decide) rfl (Nat.le_of_ble_eq_true rfl) ?_
  intro p e s m args below meth c A hx hb hr hlocks hml hts hown hP hK hD hS hA hE ls hl
  have hown : s.vm.findClass RX3 = some m.cls := hown
  have hEX := hE
  have hE : zN s := hEX.1
  have hl : lv_has ls 3 [(0, .ref x0), (1, .ref h0)] := hl
  generalize hRM : ({ frames := 9, cells := 0, slots := 0, locals := 195 } : Room) = RM
  generalize hQQ : MQ below (QW (S := (Int) × (Int) × (Int) × (Int) × (Int) × (Int) × (Int → Int) × (Int → Int) × (Int → Int) × (Int → Int)) (dC, dI) vwCl A (fun u => some (.int (zI ((rdS ln bys 10 0 0 so le ri ti).1)))) (fun u => [(x0, .inr (2, [.int (zI ln), .ref x1, .int (zI u.1), .int (zI u.2.1), .int (zI u.2.2.1), .int (zI u.2.2.2.1), .int (zI u.2.2.2.2.1)])), (x1, .inl (cI, 200, .inl (zA bys))), (h0, .inr (0, [.int (zI u.2.2.2.2.2.1), .ref h1, .ref h2, .ref h3, .ref h4])), (h1, .inl (cI, 9, .inl (zA u.2.2.2.2.2.2.1))), (h2, .inl (cI, 9, .inl (zA u.2.2.2.2.2.2.2.1))), (h3, .inl (cI, 9, .inl (zA u.2.2.2.2.2.2.2.2.1))), (h4, .inl (cI, 9, .inl (zA u.2.2.2.2.2.2.2.2.2)))]) (fun u => ((rdS ln bys 10 0 0 so le ri ti).1 = -1 → u.2.2.2.2.2.1 = (rdS ln bys 10 0 0 so le ri ti).2.1 ∧ u.2.2.2.2.2.2.1 = (rdS ln bys 10 0 0 so le ri ti).2.2.1 ∧ u.2.2.2.2.2.2.2.1 = (rdS ln bys 10 0 0 so le ri ti).2.2.2.1 ∧ u.2.2.2.2.2.2.2.2.1 = (rdS ln bys 10 0 0 so le ri ti).2.2.2.2.1 ∧ u.2.2.2.2.2.2.2.2.2 = (rdS ln bys 10 0 0 so le ri ti).2.2.2.2.2))) args s 0 0 A = QQ
  have in_X0 : ∀ w ∈ wsX00, w ∈ wsX3_readInto := by decide +kernel
  have in_X3 : ∀ w ∈ wsX30, w ∈ wsX3_readInto := by decide +kernel
  have w_0 := hts (.fieldLink RX3 27 "WallMarbles$Text" "fault" "I") (by decide +kernel)
  have w_1 := hts (.fieldLink RX3 33 "WallMarbles$Text" "token" "I") (by decide +kernel)
  have w_2 := hts (.fieldLink RX3 24 "WallMarbles$Text" "place" "I") (by decide +kernel)
  have n_19 := va_Nw.use (A := args) rfl (zN_1 hE)
  obtain ⟨RR, hRR⟩ : ∃ z, z = rdS ln bys 10 0 0 so le ri ti := ⟨_, rfl⟩
  have cut23 : ∀ (nM : Nat) (it : Int) (plv : Int) (ftv : Int) (tkv : Int) (tSv : Int) (tvv : Int) (nv : Int) (sov : Int → Int) (lev : Int → Int) (riv : Int → Int) (tiv : Int → Int),  ((11 - it).toNat) < nM → (0 ≤ it ∧ it ≤ 10) → ((ftv = -1 ∧ nv = it ∧ it ≤ 9 ∧ (0 ≤ plv ∧ plv ≤ ln) ∧ RR = rdS ln bys (10 - it).toNat it plv sov lev riv tiv) ∨ (ftv ≠ -1 ∧ RR.1 = ftv ∧ -1 ≤ ftv ∧ ftv ≤ 200)) → ∀ (H : Heap) (locs : List Loc), va_P (dC, dI) vwCl [(x0, .inr (2, [.int (zI ln), .ref x1, .int (zI plv), .int (zI ftv), .int (zI tkv), .int (zI tSv), .int (zI tvv)])), (x1, .inl (cI, 200, .inl (zA bys))), (h0, .inr (0, [.int (zI nv), .ref h1, .ref h2, .ref h3, .ref h4])), (h1, .inl (cI, 9, .inl (zA sov))), (h2, .inl (cI, 9, .inl (zA lev))), (h3, .inl (cI, 9, .inl (zA riv))), (h4, .inl (cI, 9, .inl (zA tiv)))] H → va_D A [(x0, .inr (2, [.int (zI ln), .ref x1, .int (zI plv), .int (zI ftv), .int (zI tkv), .int (zI tSv), .int (zI tvv)])), (x1, .inl (cI, 200, .inl (zA bys))), (h0, .inr (0, [.int (zI nv), .ref h1, .ref h2, .ref h3, .ref h4])), (h1, .inl (cI, 9, .inl (zA sov))), (h2, .inl (cI, 9, .inl (zA lev))), (h3, .inl (cI, 9, .inl (zA riv))), (h4, .inl (cI, 9, .inl (zA tiv)))] → va_S A s.heap H locs → ∀ ls : Array Slot, lv_has ls 3 [(0, .ref x0), (1, .ref h0), (2, .int (zI it))] → W p l e RM s m args below meth c H locs 0 0 QQ (F0 m 23 ls []) := by
    intro nM
    induction nM with
    | zero => intro it plv ftv tkv tSv tvv nv sov lev riv tiv hmu; exact absurd hmu (Nat.not_lt_zero _)
    | succ nM ih23 =>
      intro it plv ftv tkv tSv tvv nv sov lev riv tiv hmu hit hres H locs hP hD hS ls hl
      refine lv_iload_n hx hb dX3_readInto_23 rfl (lv_at hl 2 rfl) ?_
      refine zv_bipush hx hb dX3_readInto_24 (by decide +kernel) ?_
      refine zv_icmp_gt (tgt := 61) hx hb (by omega) (by omega) dX3_readInto_26 (by decide) (fun c_26 => ?_) (fun c_26 => ?_)
      · refine lv_aload_n hx hb dX3_readInto_61 rfl (lv_at hl 0 rfl) ?_
        refine va_get (D := (dC, dI)) (ci := 2) (v := .int (zI ftv)) (C := RX3) (T := TX3) (N := 7) hx hb hts in_X3 hown hK hP 0 rfl rfl 3 (by decide) w_0 (fun _ h9 => h9) rfl dX3_readInto_62 ?_
        rw [← hQQ]
        exact zw_iret hx hb hr hlocks (plv, ftv, tkv, tSv, tvv, nv, sov, lev, riv, tiv) (congrArg (fun z => some (Value.int (zI z))) (show (rdS ln bys 10 0 0 so le ri ti).1 = ftv from by rw [← hRR]; rcases hres with z | z; (exfalso; omega); exact z.2.1)) (by intro y; rw [← hRR] at y; rcases hres with z | z; (exfalso; omega); (exfalso; have := z.2.1; omega)) hP hS dX3_readInto_65
      · refine lv_aload_n hx hb dX3_readInto_29 rfl (lv_at hl 0 rfl) ?_
        refine va_get (D := (dC, dI)) (ci := 2) (v := .int (zI ftv)) (C := RX3) (T := TX3) (N := 7) hx hb hts in_X3 hown hK hP 0 rfl rfl 3 (by decide) w_0 (fun _ h9 => h9) rfl dX3_readInto_30 ?_
        refine zv_iconst hx hb dX3_readInto_33 ?_
        refine zv_icmp_ne (tgt := 61) hx hb (by omega) (by omega) dX3_readInto_34 (by decide) (fun c_34 => ?_) (fun c_34 => ?_)
        · refine lv_aload_n hx hb dX3_readInto_61 rfl (lv_at hl 0 rfl) ?_
          refine va_get (D := (dC, dI)) (ci := 2) (v := .int (zI ftv)) (C := RX3) (T := TX3) (N := 7) hx hb hts in_X3 hown hK hP 0 rfl rfl 3 (by decide) w_0 (fun _ h9 => h9) rfl dX3_readInto_62 ?_
          rw [← hQQ]
          exact zw_iret hx hb hr hlocks (plv, ftv, tkv, tSv, tvv, nv, sov, lev, riv, tiv) (congrArg (fun z => some (Value.int (zI z))) (show (rdS ln bys 10 0 0 so le ri ti).1 = ftv from by rw [← hRR]; rcases hres with z | z; (exfalso; omega); exact z.2.1)) (by intro y; rw [← hRR] at y; rcases hres with z | z; (exfalso; omega); (exfalso; have := z.2.1; omega)) hP hS dX3_readInto_65
        · obtain ⟨-, hnv, hi9, hplv, hrs⟩ : ftv = -1 ∧ nv = it ∧ it ≤ 9 ∧ (0 ≤ plv ∧ plv ≤ ln) ∧ RR = rdS ln bys (10 - it).toNat it plv sov lev riv tiv := by rcases hres with z | z; exact z; exact absurd c_34 z.1
          rw [show (10 - it).toNat = (9 - it).toNat + 1 by omega] at hrs
          have hks := tkS_r (bys := bys) hplv.2
          refine lv_aload_n hx hb dX3_readInto_37 rfl (lv_at hl 0 rfl) ?_
          refine zv_callXV (As := []) (rest := []) (ws2 := fun u => [(x0, .inr (2, [.int (zI ln), .ref x1, .int (zI u.1), .int (zI ftv), .int (zI u.2.1), .int (zI u.2.2.1), .int (zI u.2.2.2)])), (x1, .inl (cI, 200, .inl (zA bys))), (h0, .inr (0, [.int (zI nv), .ref h1, .ref h2, .ref h3, .ref h4])), (h1, .inl (cI, 9, .inl (zA sov))), (h2, .inl (cI, 9, .inl (zA lev))), (h3, .inl (cI, 9, .inl (zA riv))), (h4, .inl (cI, 9, .inl (zA tiv)))]) ⟨hx, hb, hml, hown, hts⟩ (c_X3_nextToken l dC dI cI cB cZ x0 x1 ln plv ftv tkv tSv tvv bys adK adV kt (by omega) (by exact hby) (by omega)) (cwV 0 hts gX3_readInto_X3_nextToken rfl rfl rfl (by decide +kernel) ⟨by rw [← hRM]; first | decide | (dsimp only; omega), by rw [← hRM]; first | decide | (dsimp only; omega)⟩) hP hD hS hA hK [0, 1] rfl (by decide) [0, 1, 2] rfl zX_bl (zX_go hEX hS) (fun _ => rfl) (fun _ => rfl) (q0 := 0) rfl rfl rfl rfl hl.1 rfl (Nat.le_of_ble_eq_true rfl) dX3_readInto_38 ⟨Nat.zero_le _, Nat.zero_le _⟩ (fun u H locs hpo hP hD hS => ?_)
          obtain ⟨pl2_38, tk2_38, tS2_38, tv2_38⟩ := u
          have hp0_38 : tS2_38 = (tkS ln bys plv) := hpo.1
          have hp1_38 : tk2_38 = ctk (kK ln bys (tkS ln bys plv)) := hpo.2.1
          have hp2_38 : kK ln bys (tkS ln bys plv) ≠ 7 → pl2_38 = kE ln bys (tkS ln bys plv) ∧ tv2_38 = cVl ln bys (tkS ln bys plv) := hpo.2.2
          have hP : va_P (dC, dI) vwCl [(x0, .inr (2, [.int (zI ln), .ref x1, .int (zI pl2_38), .int (zI ftv), .int (zI tk2_38), .int (zI tS2_38), .int (zI tv2_38)])), (x1, .inl (cI, 200, .inl (zA bys))), (h0, .inr (0, [.int (zI nv), .ref h1, .ref h2, .ref h3, .ref h4])), (h1, .inl (cI, 9, .inl (zA sov))), (h2, .inl (cI, 9, .inl (zA lev))), (h3, .inl (cI, 9, .inl (zA riv))), (h4, .inl (cI, 9, .inl (zA tiv)))] H := hP
          have hD : va_D A [(x0, .inr (2, [.int (zI ln), .ref x1, .int (zI pl2_38), .int (zI ftv), .int (zI tk2_38), .int (zI tS2_38), .int (zI tv2_38)])), (x1, .inl (cI, 200, .inl (zA bys))), (h0, .inr (0, [.int (zI nv), .ref h1, .ref h2, .ref h3, .ref h4])), (h1, .inl (cI, 9, .inl (zA sov))), (h2, .inl (cI, 9, .inl (zA lev))), (h3, .inl (cI, 9, .inl (zA riv))), (h4, .inl (cI, 9, .inl (zA tiv)))] := hD
          refine W.eq (g2 := F0 m 41 ls []) rfl ?_
          have hkk := kK_r ln bys (tkS ln bys plv)
          have hct := ctk_r hkk
          refine lv_aload_n hx hb dX3_readInto_41 rfl (lv_at hl 0 rfl) ?_
          refine va_get (D := (dC, dI)) (ci := 2) (v := .int (zI tk2_38)) (C := RX3) (T := TX3) (N := 7) hx hb hts in_X3 hown hK hP 0 rfl rfl 4 (by decide) w_1 (fun _ h9 => h9) rfl dX3_readInto_42 ?_
          refine zv_if_ne (tgt := 50) hx hb (by omega) dX3_readInto_45 (by decide) (fun c_45 => ?_) (fun c_45 => ?_)
          · have k4 : kK ln bys (tkS ln bys plv) ≠ 4 := fun z => c_45 (by rw [hp1_38, z]; rfl)
            subst c_34
            subst hp0_38
            have hir := itS_r (bys := bys) (n := nv) hln (q := tkS ln bys plv) ⟨by omega, by omega⟩
            refine lv_aload_n hx hb dX3_readInto_50 rfl (lv_at hl 0 rfl) ?_
            refine lv_aload_n hx hb dX3_readInto_51 rfl (lv_at hl 1 rfl) ?_
            refine zv_callXV (As := [.ref h0]) (rest := []) (ws2 := fun u => [(x0, .inr (2, [.int (zI ln), .ref x1, .int (zI u.1), .int (zI u.2.1), .int (zI u.2.2.1), .int (zI u.2.2.2.1), .int (zI u.2.2.2.2.1)])), (x1, .inl (cI, 200, .inl (zA bys))), (h0, .inr (0, [.int (zI u.2.2.2.2.2.1), .ref h1, .ref h2, .ref h3, .ref h4])), (h1, .inl (cI, 9, .inl (zA u.2.2.2.2.2.2.1))), (h2, .inl (cI, 9, .inl (zA u.2.2.2.2.2.2.2.1))), (h3, .inl (cI, 9, .inl (zA u.2.2.2.2.2.2.2.2.1))), (h4, .inl (cI, 9, .inl (zA u.2.2.2.2.2.2.2.2.2)))]) ⟨hx, hb, hml, hown, hts⟩ (c_X3_readItem l dC dI cI cB cZ x0 x1 ln pl2_38 tk2_38 tv2_38 bys adK adV kt h0 h1 h2 h3 h4 nv sov lev riv tiv (tkS ln bys plv) (by omega) (by exact hby) (by omega) (by exact hp1_38) (by exact hp2_38) (by omega)) (cwV 1 hts gX3_readInto_X3_readItem rfl rfl rfl (by decide +kernel) ⟨by rw [← hRM]; first | decide | (dsimp only; omega), by rw [← hRM]; first | decide | (dsimp only; omega)⟩) hP hD hS hA hK [0, 1, 2, 3, 4, 5, 6] rfl (by decide) [0, 1, 2] rfl zX_bl (zX_go hEX hS) (fun _ => rfl) (fun _ => rfl) (q0 := 0) rfl rfl rfl rfl hl.1 rfl (Nat.le_of_ble_eq_true rfl) dX3_readInto_52 ⟨Nat.zero_le _, Nat.zero_le _⟩ (fun u H locs hpo hP hD hS => ?_)
            obtain ⟨pl2_52, ft2_52, tk2_52, tS2_52, tv2_52, n2_52, so2_52, le2_52, ri2_52, ti2_52⟩ := u
            have hp0_52 : ft2_52 = (itS ln bys nv (tkS ln bys plv)).1 := hpo.1
            have hp1_52 : ft2_52 = -1 → nv < 9 ∧ pl2_52 = (itS ln bys nv (tkS ln bys plv)).2 ∧ n2_52 = nv + 1 ∧ so2_52 = zu sov nv (kK ln bys (tkS ln bys plv)) ∧ le2_52 = zu lev nv (itA ln bys nv (tkS ln bys plv)).2.2 ∧ ri2_52 = zu riv nv (itB ln bys nv (tkS ln bys plv)).2.2 ∧ ti2_52 = zu tiv nv (itC ln bys nv (tkS ln bys plv)).2.2 := hpo.2
            have hP : va_P (dC, dI) vwCl [(x0, .inr (2, [.int (zI ln), .ref x1, .int (zI pl2_52), .int (zI ft2_52), .int (zI tk2_52), .int (zI tS2_52), .int (zI tv2_52)])), (x1, .inl (cI, 200, .inl (zA bys))), (h0, .inr (0, [.int (zI n2_52), .ref h1, .ref h2, .ref h3, .ref h4])), (h1, .inl (cI, 9, .inl (zA so2_52))), (h2, .inl (cI, 9, .inl (zA le2_52))), (h3, .inl (cI, 9, .inl (zA ri2_52))), (h4, .inl (cI, 9, .inl (zA ti2_52)))] H := hP
            have hD : va_D A [(x0, .inr (2, [.int (zI ln), .ref x1, .int (zI pl2_52), .int (zI ft2_52), .int (zI tk2_52), .int (zI tS2_52), .int (zI tv2_52)])), (x1, .inl (cI, 200, .inl (zA bys))), (h0, .inr (0, [.int (zI n2_52), .ref h1, .ref h2, .ref h3, .ref h4])), (h1, .inl (cI, 9, .inl (zA so2_52))), (h2, .inl (cI, 9, .inl (zA le2_52))), (h3, .inl (cI, 9, .inl (zA ri2_52))), (h4, .inl (cI, 9, .inl (zA ti2_52)))] := hD
            refine W.eq (g2 := F0 m 55 ls []) rfl ?_
            refine zv_iinc (k := 2) (a := it) (n := 1) (lv' := [(2, .int (zI (it + 1))), (0, .ref x0), (1, .ref h0)]) hx hb dX3_readInto_55 hl rfl (by decide) rfl (fun ls hl => ?_)
            refine lv_goto (tgt := 23) hx hb dX3_readInto_58 (by decide) ?_
            exact ih23 (it + 1) pl2_52 ft2_52 tk2_52 tS2_52 tv2_52 n2_52 so2_52 le2_52 ri2_52 ti2_52 (by omega) (by omega) (by by_cases z : ft2_52 = -1; (obtain ⟨y1, y2, y3, y4, y5, y6, y7⟩ := hp1_52 z; refine Or.inl ⟨z, by omega, by omega, by rw [y2]; exact hir.2 (by omega), ?_⟩; rw [hrs, rdS_y k4 (by rw [← hnv, ← hp0_52]; exact z), show (10 - (it + 1)).toNat = (9 - it).toNat by omega, y2, y4, y5, y6, y7, hnv]); (refine Or.inr ⟨z, ?_, by have := hp0_52; omega, by have := hp0_52; omega⟩; rw [hrs, rdS_n k4 (by rw [← hnv, ← hp0_52]; exact z), hp0_52, hnv])) _ _ hP hD hS _ (lv_sub hl [1, 2, 0] rfl)
          · have k4 : kK ln bys (tkS ln bys plv) = 4 := ctk_0 hkk (by omega)
            rw [rdS_4 k4] at hrs
            refine zv_iconst hx hb dX3_readInto_48 ?_
            rw [← hQQ]
            exact zw_iret hx hb hr hlocks (pl2_38, ftv, tk2_38, tS2_38, tv2_38, nv, sov, lev, riv, tiv) (congrArg (fun z => some (Value.int (zI z))) (show (rdS ln bys 10 0 0 so le ri ti).1 = (-1) from by rw [← hRR, hrs])) (by intro _; rw [← hRR, hrs, hnv]; exact ⟨rfl, rfl, rfl, rfl, rfl⟩) hP hS dX3_readInto_49
  refine lv_aload_n hx hb dX3_readInto_0 rfl (lv_at hl 1 rfl) ?_
  refine lv_ifnonnull (tgt := 6) hx hb dX3_readInto_1 (by decide) ?_
  refine lv_aload_n hx hb dX3_readInto_6 rfl (lv_at hl 1 rfl) ?_
  refine zv_iconst hx hb dX3_readInto_7 ?_
  refine va_putN (D := (dC, dI)) (ci := 0) (v := .int (zI 0)) (ty := .int) (C := RX0) (T := TX0) (N := 5) hx hb hts in_X0 tyX0 tyX0_ok nmX0 hown hK hP hD hS 2 rfl rfl 0 (by decide) n_19 (fun _ h9 => h9) rfl (by decide +kernel) rfl rfl (Nat.le_of_ble_eq_true rfl) dX3_readInto_8 (fun H locs hP hD hS => ?_)
  have hP : va_P (dC, dI) vwCl [(x0, .inr (2, [.int (zI ln), .ref x1, .int (zI pl), .int (zI ft), .int (zI tk), .int (zI tS), .int (zI tv)])), (x1, .inl (cI, 200, .inl (zA bys))), (h0, .inr (0, [.int (zI 0), .ref h1, .ref h2, .ref h3, .ref h4])), (h1, .inl (cI, 9, .inl (zA so))), (h2, .inl (cI, 9, .inl (zA le))), (h3, .inl (cI, 9, .inl (zA ri))), (h4, .inl (cI, 9, .inl (zA ti)))] H := hP
  have hD : va_D A [(x0, .inr (2, [.int (zI ln), .ref x1, .int (zI pl), .int (zI ft), .int (zI tk), .int (zI tS), .int (zI tv)])), (x1, .inl (cI, 200, .inl (zA bys))), (h0, .inr (0, [.int (zI 0), .ref h1, .ref h2, .ref h3, .ref h4])), (h1, .inl (cI, 9, .inl (zA so))), (h2, .inl (cI, 9, .inl (zA le))), (h3, .inl (cI, 9, .inl (zA ri))), (h4, .inl (cI, 9, .inl (zA ti)))] := hD
  refine lv_aload_n hx hb dX3_readInto_11 rfl (lv_at hl 0 rfl) ?_
  refine zv_iconst hx hb dX3_readInto_12 ?_
  refine va_put (D := (dC, dI)) (ci := 2) (v := .int (zI 0)) (ty := .int) (C := RX3) (T := TX3) (N := 7) hx hb hts in_X3 tyX3 tyX3_ok nmX3 hown hK hP hD hS 0 rfl rfl 2 (by decide) w_2 (fun _ h9 => h9) rfl (by decide +kernel) rfl rfl (Nat.le_of_ble_eq_true rfl) dX3_readInto_13 (fun H locs hP hD hS => ?_)
  have hP : va_P (dC, dI) vwCl [(x0, .inr (2, [.int (zI ln), .ref x1, .int (zI 0), .int (zI ft), .int (zI tk), .int (zI tS), .int (zI tv)])), (x1, .inl (cI, 200, .inl (zA bys))), (h0, .inr (0, [.int (zI 0), .ref h1, .ref h2, .ref h3, .ref h4])), (h1, .inl (cI, 9, .inl (zA so))), (h2, .inl (cI, 9, .inl (zA le))), (h3, .inl (cI, 9, .inl (zA ri))), (h4, .inl (cI, 9, .inl (zA ti)))] H := hP
  have hD : va_D A [(x0, .inr (2, [.int (zI ln), .ref x1, .int (zI 0), .int (zI ft), .int (zI tk), .int (zI tS), .int (zI tv)])), (x1, .inl (cI, 200, .inl (zA bys))), (h0, .inr (0, [.int (zI 0), .ref h1, .ref h2, .ref h3, .ref h4])), (h1, .inl (cI, 9, .inl (zA so))), (h2, .inl (cI, 9, .inl (zA le))), (h3, .inl (cI, 9, .inl (zA ri))), (h4, .inl (cI, 9, .inl (zA ti)))] := hD
  refine lv_aload_n hx hb dX3_readInto_16 rfl (lv_at hl 0 rfl) ?_
  refine zv_iconst hx hb dX3_readInto_17 ?_
  refine va_put (D := (dC, dI)) (ci := 2) (v := .int (zI ((-1)))) (ty := .int) (C := RX3) (T := TX3) (N := 7) hx hb hts in_X3 tyX3 tyX3_ok nmX3 hown hK hP hD hS 0 rfl rfl 3 (by decide) w_0 (fun _ h9 => h9) rfl (by decide +kernel) rfl rfl (Nat.le_of_ble_eq_true rfl) dX3_readInto_18 (fun H locs hP hD hS => ?_)
  have hP : va_P (dC, dI) vwCl [(x0, .inr (2, [.int (zI ln), .ref x1, .int (zI 0), .int (zI ((-1))), .int (zI tk), .int (zI tS), .int (zI tv)])), (x1, .inl (cI, 200, .inl (zA bys))), (h0, .inr (0, [.int (zI 0), .ref h1, .ref h2, .ref h3, .ref h4])), (h1, .inl (cI, 9, .inl (zA so))), (h2, .inl (cI, 9, .inl (zA le))), (h3, .inl (cI, 9, .inl (zA ri))), (h4, .inl (cI, 9, .inl (zA ti)))] H := hP
  have hD : va_D A [(x0, .inr (2, [.int (zI ln), .ref x1, .int (zI 0), .int (zI ((-1))), .int (zI tk), .int (zI tS), .int (zI tv)])), (x1, .inl (cI, 200, .inl (zA bys))), (h0, .inr (0, [.int (zI 0), .ref h1, .ref h2, .ref h3, .ref h4])), (h1, .inl (cI, 9, .inl (zA so))), (h2, .inl (cI, 9, .inl (zA le))), (h3, .inl (cI, 9, .inl (zA ri))), (h4, .inl (cI, 9, .inl (zA ti)))] := hD
  refine zv_iconst hx hb dX3_readInto_21 ?_
  refine lv_istore_n (lv' := [(2, .int (zI 0)), (0, .ref x0), (1, .ref h0)]) hx hb dX3_readInto_22 rfl hl (by decide) rfl (fun ls hl => ?_)
  exact cut23 _ 0 0 (-1) tk tS tv 0 so le ri ti (Nat.lt_succ_self _) (by omega) (by refine Or.inl ⟨rfl, rfl, by omega, by omega, ?_⟩; rw [hRR]; rfl) _ _ hP hD hS _ (lv_sub hl [1, 2, 0] rfl)
