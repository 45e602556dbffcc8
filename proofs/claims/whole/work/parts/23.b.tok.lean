set_option maxHeartbeats 4000000 in
set_option maxRecDepth 100000 in
theorem c_X3_nextToken (l : Launch) (dC : Nat → ClassId) (dI : Nat → Nat → Nat) (cI cB cZ : ClassId) (x0 : Nat) (x1 : Nat) (ln : Int) (pl : Int) (ft : Int) (tk : Int) (tS : Int) (tv : Int) (bys : Int → Int) (adK : Nat → Nat) (adV : Nat → Nat) (kt : Nat) (hln : 0 ≤ ln ∧ ln ≤ 200) (hby : ∀ k : Int, 0 ≤ k → k < ln → 0 ≤ bys k ∧ bys k ≤ 255) (hpl : 0 ≤ pl ∧ pl ≤ ln) : MetX (S := (Int) × (Int) × (Int) × (Int)) l yX3_nextToken wsX3_nextToken ({ frames := 6, cells := 0, slots := 0, locals := 127 }) (dC, dI) vwCl (zT cI cB cZ) (zX adK adV kt) [(x0, .inr (2, [.int (zI ln), .ref x1, .int (zI pl), .int (zI ft), .int (zI tk), .int (zI tS), .int (zI tv)])), (x1, .inl (cI, 200, .inl (zA bys)))] [.ref x0] (fun u => none) (fun u => [(x0, .inr (2, [.int (zI ln), .ref x1, .int (zI u.1), .int (zI ft), .int (zI u.2.1), .int (zI u.2.2.1), .int (zI u.2.2.2)])), (x1, .inl (cI, 200, .inl (zA bys)))]) (fun u => (u.2.2.1 = (tkS ln bys pl)) ∧ (u.2.1 = ctk (kK ln bys (tkS ln bys pl))) ∧ (kK ln bys (tkS ln bys pl) ≠ 7 → u.1 = kE ln bys (tkS ln bys pl) ∧ u.2.2.2 = cVl ln bys (tkS ln bys pl))) := by
  refine MetX.intro (cc := cX3_nextToken) (maxL := 2) (ret := none) (by decide) rfl (Nat.le_of_ble_eq_true rfl) ?_
  intro p e s m args below meth c A hx hb hr hlocks hml hts hown hP hK hD hS hA hE ls hl
  have hown : s.vm.findClass RX3 = some m.cls := hown
  have hEX := hE
  have hE : zN s := hEX.1
  have hl : lv_has ls 2 [(0, .ref x0)] := hl
  generalize hRM : ({ frames := 6, cells := 0, slots := 0, locals := 127 } : Room) = RM
  generalize hQQ : MQ below (QW (S := (Int) × (Int) × (Int) × (Int)) (dC, dI) vwCl A (fun u => none) (fun u => [(x0, .inr (2, [.int (zI ln), .ref x1, .int (zI u.1), .int (zI ft), .int (zI u.2.1), .int (zI u.2.2.1), .int (zI u.2.2.2)])), (x1, .inl (cI, 200, .inl (zA bys)))]) (fun u => (u.2.2.1 = (tkS ln bys pl)) ∧ (u.2.1 = ctk (kK ln bys (tkS ln bys pl))) ∧ (kK ln bys (tkS ln bys pl) ≠ 7 → u.1 = kE ln bys (tkS ln bys pl) ∧ u.2.2.2 = cVl ln bys (tkS ln bys pl)))) args s 0 0 A = QQ
  have in_X3 : ∀ w ∈ wsX30, w ∈ wsX3_nextToken := by decide +kernel
  have w_0 := hts (.fieldLink RX3 24 "WallMarbles$Text" "place" "I") (by decide +kernel)
  have w_1 := hts (.fieldLink RX3 15 "WallMarbles$Text" "length" "I") (by decide +kernel)
  have w_2 := hts (.fieldLink RX3 40 "WallMarbles$Text" "tokenStart" "I") (by decide +kernel)
  have w_3 := hts (.fieldLink RX3 43 "WallMarbles$Text" "value" "I") (by decide +kernel)
  have w_4 := hts (.fieldLink RX3 33 "WallMarbles$Text" "token" "I") (by decide +kernel)
  have cut0 : ∀ (nM : Nat) (q : Int),  ((ln - q).toNat) < nM → (0 ≤ q ∧ q ≤ ln) → (skE isBl ln bys q = skE isBl ln bys pl) → ∀ (H : Heap) (locs : List Loc), va_P (dC, dI) vwCl [(x0, .inr (2, [.int (zI ln), .ref x1, .int (zI q), .int (zI ft), .int (zI tk), .int (zI tS), .int (zI tv)])), (x1, .inl (cI, 200, .inl (zA bys)))] H → va_D A [(x0, .inr (2, [.int (zI ln), .ref x1, .int (zI q), .int (zI ft), .int (zI tk), .int (zI tS), .int (zI tv)])), (x1, .inl (cI, 200, .inl (zA bys)))] → va_S A s.heap H locs → ∀ ls : Array Slot, lv_has ls 2 [(0, .ref x0)] → W p l e RM s m args below meth c H locs 0 0 QQ (F0 m 0 ls []) := by
    intro nM
    induction nM with
    | zero => intro q hmu; exact absurd hmu (Nat.not_lt_zero _)
    | succ nM ih0 =>
      intro q hmu hq hsk H locs hP hD hS ls hl
      refine lv_aload_n hx hb dX3_nextToken_0 rfl (lv_at hl 0 rfl) ?_
      refine va_get (D := (dC, dI)) (ci := 2) (v := .int (zI q)) (C := RX3) (T := TX3) (N := 7) hx hb hts in_X3 hown hK hP 0 rfl rfl 2 (by decide) w_0 (fun _ h9 => h9) rfl dX3_nextToken_1 ?_
      refine lv_aload_n hx hb dX3_nextToken_4 rfl (lv_at hl 0 rfl) ?_
      refine va_get (D := (dC, dI)) (ci := 2) (v := .int (zI ln)) (C := RX3) (T := TX3) (N := 7) hx hb hts in_X3 hown hK hP 0 rfl rfl 0 (by decide) w_1 (fun _ h9 => h9) rfl dX3_nextToken_5 ?_
      refine zv_icmp_ge (tgt := 37) hx hb (by omega) (by omega) dX3_nextToken_8 (by decide) (fun c_8 => ?_) (fun c_8 => ?_)
      · have heq : q = (tkS ln bys pl) := by unfold tkS; rw [← hsk]; exact (skE_n (by first | (intro z; omega) | (intro z; exact c_21 (of_decide_eq_true z.2)))).symm
        have ysg := sgA_r hby q
        refine lv_aload_n hx hb dX3_nextToken_37 rfl (lv_at hl 0 rfl) ?_
        refine lv_aload_n hx hb dX3_nextToken_38 rfl (lv_at hl 0 rfl) ?_
        refine va_get (D := (dC, dI)) (ci := 2) (v := .int (zI q)) (C := RX3) (T := TX3) (N := 7) hx hb hts in_X3 hown hK hP 0 rfl rfl 2 (by decide) w_0 (fun _ h9 => h9) rfl dX3_nextToken_39 ?_
        refine va_put (D := (dC, dI)) (ci := 2) (v := .int (zI q)) (ty := .int) (C := RX3) (T := TX3) (N := 7) hx hb hts in_X3 tyX3 tyX3_ok nmX3 hown hK hP hD hS 0 rfl rfl 5 (by decide) w_2 (fun _ h9 => h9) rfl (by decide +kernel) rfl rfl (Nat.le_of_ble_eq_true rfl) dX3_nextToken_42 (fun H locs hP hD hS => ?_)
        have hP : va_P (dC, dI) vwCl [(x0, .inr (2, [.int (zI ln), .ref x1, .int (zI q), .int (zI ft), .int (zI tk), .int (zI q), .int (zI tv)])), (x1, .inl (cI, 200, .inl (zA bys)))] H := hP
        have hD : va_D A [(x0, .inr (2, [.int (zI ln), .ref x1, .int (zI q), .int (zI ft), .int (zI tk), .int (zI q), .int (zI tv)])), (x1, .inl (cI, 200, .inl (zA bys)))] := hD
        refine lv_aload_n hx hb dX3_nextToken_45 rfl (lv_at hl 0 rfl) ?_
        refine zv_iconst hx hb dX3_nextToken_46 ?_
        refine va_put (D := (dC, dI)) (ci := 2) (v := .int (zI 0)) (ty := .int) (C := RX3) (T := TX3) (N := 7) hx hb hts in_X3 tyX3 tyX3_ok nmX3 hown hK hP hD hS 0 rfl rfl 6 (by decide) w_3 (fun _ h9 => h9) rfl (by decide +kernel) rfl rfl (Nat.le_of_ble_eq_true rfl) dX3_nextToken_47 (fun H locs hP hD hS => ?_)
        have hP : va_P (dC, dI) vwCl [(x0, .inr (2, [.int (zI ln), .ref x1, .int (zI q), .int (zI ft), .int (zI tk), .int (zI q), .int (zI 0)])), (x1, .inl (cI, 200, .inl (zA bys)))] H := hP
        have hD : va_D A [(x0, .inr (2, [.int (zI ln), .ref x1, .int (zI q), .int (zI ft), .int (zI tk), .int (zI q), .int (zI 0)])), (x1, .inl (cI, 200, .inl (zA bys)))] := hD
        refine lv_aload_n hx hb dX3_nextToken_50 rfl (lv_at hl 0 rfl) ?_
        refine lv_aload_n hx hb dX3_nextToken_51 rfl (lv_at hl 0 rfl) ?_
        refine va_get (D := (dC, dI)) (ci := 2) (v := .int (zI q)) (C := RX3) (T := TX3) (N := 7) hx hb hts in_X3 hown hK hP 0 rfl rfl 2 (by decide) w_0 (fun _ h9 => h9) rfl dX3_nextToken_52 ?_
        refine zv_callRV (As := [.int (zI q)]) (rest := []) ⟨hx, hb, hml, hown, hts⟩ (c_X3_signAt l dC dI cI cB cZ x0 x1 ln q ft tk q 0 bys q (by omega) (by omega)) (cwV 1 hts gX3_nextToken_X3_signAt rfl rfl rfl (by decide +kernel) ⟨by rw [← hRM]; first | decide | (dsimp only; omega), by rw [← hRM]; first | decide | (dsimp only; omega)⟩) hP hK [0, 1] rfl [0, 1, 2] rfl zN_bl (zN_go hE) (q0 := 0) rfl rfl rfl rfl hl.1 rfl (Nat.le_of_ble_eq_true rfl) dX3_nextToken_55 ⟨Nat.zero_le _, Nat.zero_le _⟩ ?_
        refine lv_istore_n (lv' := [(1, .int (zI (sgA ln bys q))), (0, .ref x0)]) hx hb dX3_nextToken_58 rfl hl (by decide) rfl (fun ls hl => ?_)
        refine lv_aload_n hx hb dX3_nextToken_59 rfl (lv_at hl 1 rfl) ?_
        refine va_get (D := (dC, dI)) (ci := 2) (v := .int (zI q)) (C := RX3) (T := TX3) (N := 7) hx hb hts in_X3 hown hK hP 0 rfl rfl 2 (by decide) w_0 (fun _ h9 => h9) rfl dX3_nextToken_60 ?_
        refine lv_aload_n hx hb dX3_nextToken_63 rfl (lv_at hl 1 rfl) ?_
        refine va_get (D := (dC, dI)) (ci := 2) (v := .int (zI ln)) (C := RX3) (T := TX3) (N := 7) hx hb hts in_X3 hown hK hP 0 rfl rfl 0 (by decide) w_1 (fun _ h9 => h9) rfl dX3_nextToken_64 ?_
        refine zv_icmp_lt (tgt := 78) hx hb (by omega) (by omega) dX3_nextToken_67 (by decide) (fun c_67 => ?_) (fun c_67 => ?_)
        · rw [sgA_in (ln := ln) (bys := bys) (k := q) (by omega)] at hl
          have yq := hby q (by omega) (by omega)
          refine lv_iload_n hx hb dX3_nextToken_78 rfl (lv_at hl 0 rfl) ?_
          refine zv_bipush hx hb dX3_nextToken_79 (by decide +kernel) ?_
          refine zv_icmp_ne (tgt := 102) hx hb (by omega) (by omega) dX3_nextToken_81 (by decide) (fun c_81 => ?_) (fun c_81 => ?_)
          · refine lv_iload_n hx hb dX3_nextToken_102 rfl (lv_at hl 0 rfl) ?_
            refine zv_callRS (As := [.int (zI (bys q))]) (rest := []) ⟨hx, hb, hml, hown, hts⟩ (c_X3_isLetter l dC dI cI cB cZ (bys q) (by omega)) (va_cwS 1 hts gX3_nextToken_X3_isLetter rfl rfl rfl (by decide +kernel) ⟨by rw [← hRM]; first | decide | (dsimp only; omega), by rw [← hRM]; first | decide | (dsimp only; omega)⟩) hP hK [] rfl [0, 1, 2] rfl zN_bl (zN_go hE) rfl hl.1 rfl (Nat.le_of_ble_eq_true rfl) dX3_nextToken_103 ⟨Nat.zero_le _, Nat.zero_le _⟩ ?_
            refine zv_ifeq_b (tgt := 116) hx hb dX3_nextToken_106 (by decide) (fun c_106 => ?_) (fun c_106 => ?_)
            · refine lv_iload_n hx hb dX3_nextToken_116 rfl (lv_at hl 0 rfl) ?_
              refine zv_callRS (As := [.int (zI (bys q))]) (rest := []) ⟨hx, hb, hml, hown, hts⟩ (c_X3_isDigit l dC dI cI cB cZ (bys q) (by omega)) (va_cwS 1 hts gX3_nextToken_X3_isDigit rfl rfl rfl (by decide +kernel) ⟨by rw [← hRM]; first | decide | (dsimp only; omega), by rw [← hRM]; first | decide | (dsimp only; omega)⟩) hP hK [] rfl [0, 1, 2] rfl zN_bl (zN_go hE) rfl hl.1 rfl (Nat.le_of_ble_eq_true rfl) dX3_nextToken_117 ⟨Nat.zero_le _, Nat.zero_le _⟩ ?_
              refine zv_ifeq_b (tgt := 130) hx hb dX3_nextToken_120 (by decide) (fun c_120 => ?_) (fun c_120 => ?_)
              · refine lv_aload_n hx hb dX3_nextToken_130 rfl (lv_at hl 1 rfl) ?_
                refine zv_iconst hx hb dX3_nextToken_131 ?_
                refine va_put (D := (dC, dI)) (ci := 2) (v := .int (zI 4)) (ty := .int) (C := RX3) (T := TX3) (N := 7) hx hb hts in_X3 tyX3 tyX3_ok nmX3 hown hK hP hD hS 0 rfl rfl 4 (by decide) w_4 (fun _ h9 => h9) rfl (by decide +kernel) rfl rfl (Nat.le_of_ble_eq_true rfl) dX3_nextToken_132 (fun H locs hP hD hS => ?_)
                have hP : va_P (dC, dI) vwCl [(x0, .inr (2, [.int (zI ln), .ref x1, .int (zI q), .int (zI ft), .int (zI 4), .int (zI q), .int (zI 0)])), (x1, .inl (cI, 200, .inl (zA bys)))] H := hP
                have hD : va_D A [(x0, .inr (2, [.int (zI ln), .ref x1, .int (zI q), .int (zI ft), .int (zI 4), .int (zI q), .int (zI 0)])), (x1, .inl (cI, 200, .inl (zA bys)))] := hD
                rw [← hQQ]
                exact zw_vret hx hb hr hlocks (q, 4, q, 0) rfl ⟨(by exact heq), (by rw [← heq]; first | (rw [hp1_110, kK_w (by omega) c_106]; unfold ctk; (repeat' split) <;> first | rfl | omega) | (rw [hp1_124, kK_d (by omega) c_106 c_120]; unfold ctk; (repeat' split) <;> first | rfl | omega) | (rw [show kK ln bys q = 4 from if_pos (by omega)]; rfl) | (rw [kK_s (by omega) c_81]; rfl) | (rw [kK_o (by omega) c_106 c_120 c_81]; rfl)), (by rw [← heq]; intro h7; first | (rw [kK_w (by omega) c_106] at h7; rw [if_neg h7] at hp2_110; rw [hp0_110, kE_w (by omega) c_106, cVl_w (by omega) c_106 hw h7, hp2_110]; exact ⟨rfl, rfl⟩) | (rw [kK_d (by omega) c_106 c_120] at h7; rw [hp0_124, kE_d (by omega) c_106 c_120, cVl_d (by omega) c_106 c_120, hp2_124 (by by_cases z : nmOk ln bys q; exact z; exact absurd (if_neg z) h7)]; exact ⟨rfl, rfl⟩) | (exact kE_e (by omega)) | (exact kE_s (by omega) c_81) | (exfalso; exact h7 (kK_o (by omega) c_106 c_120 c_81)))⟩ hP hS dX3_nextToken_135
              · refine lv_aload_n hx hb dX3_nextToken_123 rfl (lv_at hl 1 rfl) ?_
                refine zv_callWV (As := []) (rest := []) (ws2 := fun u => [(x0, .inr (2, [.int (zI ln), .ref x1, .int (zI u.1), .int (zI ft), .int (zI u.2.1), .int (zI q), .int (zI u.2.2)])), (x1, .inl (cI, 200, .inl (zA bys)))]) ⟨hx, hb, hml, hown, hts⟩ (c_X3_readNumber l dC dI cI cB cZ x0 x1 ln q ft tk q bys (by omega) (by exact hby) (by omega) (by exact c_120)) (cwV 0 hts gX3_nextToken_X3_readNumber rfl rfl rfl (by decide +kernel) ⟨by rw [← hRM]; first | decide | (dsimp only; omega), by rw [← hRM]; first | decide | (dsimp only; omega)⟩) hP hD hS hA hK [0, 1] rfl (by decide) [0, 1, 2] rfl zN_bl (zN_go hE) (fun _ => rfl) (fun _ => rfl) (q0 := 0) rfl rfl rfl rfl hl.1 rfl (Nat.le_of_ble_eq_true rfl) dX3_nextToken_124 ⟨Nat.zero_le _, Nat.zero_le _⟩ (fun u H locs hpo hP hD hS => ?_)
                obtain ⟨pl2_124, tk2_124, tv2_124⟩ := u
                have hp0_124 : pl2_124 = skE isDi ln bys q := hpo.1
                have hp1_124 : tk2_124 = if nmOk ln bys q then 2 else 4 := hpo.2.1
                have hp2_124 : nmOk ln bys q → tv2_124 = nmV ln bys q := hpo.2.2
                have hP : va_P (dC, dI) vwCl [(x0, .inr (2, [.int (zI ln), .ref x1, .int (zI pl2_124), .int (zI ft), .int (zI tk2_124), .int (zI q), .int (zI tv2_124)])), (x1, .inl (cI, 200, .inl (zA bys)))] H := hP
                have hD : va_D A [(x0, .inr (2, [.int (zI ln), .ref x1, .int (zI pl2_124), .int (zI ft), .int (zI tk2_124), .int (zI q), .int (zI tv2_124)])), (x1, .inl (cI, 200, .inl (zA bys)))] := hD
                refine W.eq (g2 := F0 m 127 ls []) rfl ?_
                refine lv_goto (tgt := 135) hx hb dX3_nextToken_127 (by decide) ?_
                rw [← hQQ]
                exact zw_vret hx hb hr hlocks (pl2_124, tk2_124, q, tv2_124) rfl ⟨(by exact heq), (by rw [← heq]; first | (rw [hp1_110, kK_w (by omega) c_106]; unfold ctk; (repeat' split) <;> first | rfl | omega) | (rw [hp1_124, kK_d (by omega) c_106 c_120]; unfold ctk; (repeat' split) <;> first | rfl | omega) | (rw [show kK ln bys q = 4 from if_pos (by omega)]; rfl) | (rw [kK_s (by omega) c_81]; rfl) | (rw [kK_o (by omega) c_106 c_120 c_81]; rfl)), (by rw [← heq]; intro h7; first | (rw [kK_w (by omega) c_106] at h7; rw [if_neg h7] at hp2_110; rw [hp0_110, kE_w (by omega) c_106, cVl_w (by omega) c_106 hw h7, hp2_110]; exact ⟨rfl, rfl⟩) | (rw [kK_d (by omega) c_106 c_120] at h7; rw [hp0_124, kE_d (by omega) c_106 c_120, cVl_d (by omega) c_106 c_120, hp2_124 (by by_cases z : nmOk ln bys q; exact z; exact absurd (if_neg z) h7)]; exact ⟨rfl, rfl⟩) | (exact kE_e (by omega)) | (exact kE_s (by omega) c_81) | (exfalso; exact h7 (kK_o (by omega) c_106 c_120 c_81)))⟩ hP hS dX3_nextToken_135
            · refine lv_aload_n hx hb dX3_nextToken_109 rfl (lv_at hl 1 rfl) ?_
              refine zv_callXV (As := []) (rest := []) (ws2 := fun u => [(x0, .inr (2, [.int (zI ln), .ref x1, .int (zI u.1), .int (zI ft), .int (zI u.2.1), .int (zI q), .int (zI u.2.2)])), (x1, .inl (cI, 200, .inl (zA bys)))]) ⟨hx, hb, hml, hown, hts⟩ (c_X3_readWord l dC dI cI cB cZ x0 x1 ln q ft tk q bys adK adV kt (by omega) (by exact hby) (by omega) (by exact c_106)) (cwV 0 hts gX3_nextToken_X3_readWord rfl rfl rfl (by decide +kernel) ⟨by rw [← hRM]; first | decide | (dsimp only; omega), by rw [← hRM]; first | decide | (dsimp only; omega)⟩) hP hD hS hA hK [0, 1] rfl (by decide) [0, 1, 2] rfl zX_bl (zX_go hEX hS) (fun _ => rfl) (fun _ => rfl) (q0 := 0) rfl rfl rfl rfl hl.1 rfl (Nat.le_of_ble_eq_true rfl) dX3_nextToken_110 ⟨Nat.zero_le _, Nat.zero_le _⟩ (fun u H locs hpo hP hD hS => ?_)
              obtain ⟨pl2_110, tk2_110, tv2_110⟩ := u
              have hp0_110 : pl2_110 = skE isLe ln bys q := hpo.1
              have hp1_110 : tk2_110 = if wdK ln bys q (skE isLe ln bys q) = 7 then 4 else 1 := hpo.2.1
              have hp2_110 : tv2_110 = if wdK ln bys q (skE isLe ln bys q) = 7 then 0 else wdK ln bys q (skE isLe ln bys q) := hpo.2.2
              have hP : va_P (dC, dI) vwCl [(x0, .inr (2, [.int (zI ln), .ref x1, .int (zI pl2_110), .int (zI ft), .int (zI tk2_110), .int (zI q), .int (zI tv2_110)])), (x1, .inl (cI, 200, .inl (zA bys)))] H := hP
              have hD : va_D A [(x0, .inr (2, [.int (zI ln), .ref x1, .int (zI pl2_110), .int (zI ft), .int (zI tk2_110), .int (zI q), .int (zI tv2_110)])), (x1, .inl (cI, 200, .inl (zA bys)))] := hD
              refine W.eq (g2 := F0 m 113 ls []) rfl ?_
              have hw := wdK_r ln bys q (skE isLe ln bys q)
              refine lv_goto (tgt := 135) hx hb dX3_nextToken_113 (by decide) ?_
              rw [← hQQ]
              exact zw_vret hx hb hr hlocks (pl2_110, tk2_110, q, tv2_110) rfl ⟨(by exact heq), (by rw [← heq]; first | (rw [hp1_110, kK_w (by omega) c_106]; unfold ctk; (repeat' split) <;> first | rfl | omega) | (rw [hp1_124, kK_d (by omega) c_106 c_120]; unfold ctk; (repeat' split) <;> first | rfl | omega) | (rw [show kK ln bys q = 4 from if_pos (by omega)]; rfl) | (rw [kK_s (by omega) c_81]; rfl) | (rw [kK_o (by omega) c_106 c_120 c_81]; rfl)), (by rw [← heq]; intro h7; first | (rw [kK_w (by omega) c_106] at h7; rw [if_neg h7] at hp2_110; rw [hp0_110, kE_w (by omega) c_106, cVl_w (by omega) c_106 hw h7, hp2_110]; exact ⟨rfl, rfl⟩) | (rw [kK_d (by omega) c_106 c_120] at h7; rw [hp0_124, kE_d (by omega) c_106 c_120, cVl_d (by omega) c_106 c_120, hp2_124 (by by_cases z : nmOk ln bys q; exact z; exact absurd (if_neg z) h7)]; exact ⟨rfl, rfl⟩) | (exact kE_e (by omega)) | (exact kE_s (by omega) c_81) | (exfalso; exact h7 (kK_o (by omega) c_106 c_120 c_81)))⟩ hP hS dX3_nextToken_135
          · refine lv_aload_n hx hb dX3_nextToken_84 rfl (lv_at hl 1 rfl) ?_
            refine zv_iconst hx hb dX3_nextToken_85 ?_
            refine va_put (D := (dC, dI)) (ci := 2) (v := .int (zI 3)) (ty := .int) (C := RX3) (T := TX3) (N := 7) hx hb hts in_X3 tyX3 tyX3_ok nmX3 hown hK hP hD hS 0 rfl rfl 4 (by decide) w_4 (fun _ h9 => h9) rfl (by decide +kernel) rfl rfl (Nat.le_of_ble_eq_true rfl) dX3_nextToken_86 (fun H locs hP hD hS => ?_)
            have hP : va_P (dC, dI) vwCl [(x0, .inr (2, [.int (zI ln), .ref x1, .int (zI q), .int (zI ft), .int (zI 3), .int (zI q), .int (zI 0)])), (x1, .inl (cI, 200, .inl (zA bys)))] H := hP
            have hD : va_D A [(x0, .inr (2, [.int (zI ln), .ref x1, .int (zI q), .int (zI ft), .int (zI 3), .int (zI q), .int (zI 0)])), (x1, .inl (cI, 200, .inl (zA bys)))] := hD
            refine lv_aload_n hx hb dX3_nextToken_89 rfl (lv_at hl 1 rfl) ?_
            refine lv_dup hx hb dX3_nextToken_90 rfl ?_
            refine va_get (D := (dC, dI)) (ci := 2) (v := .int (zI q)) (C := RX3) (T := TX3) (N := 7) hx hb hts in_X3 hown hK hP 0 rfl rfl 2 (by decide) w_0 (fun _ h9 => h9) rfl dX3_nextToken_91 ?_
            refine zv_iconst hx hb dX3_nextToken_94 ?_
            refine zv_iadd hx hb dX3_nextToken_95 ?_
            refine va_put (D := (dC, dI)) (ci := 2) (v := .int (zI (q + 1))) (ty := .int) (C := RX3) (T := TX3) (N := 7) hx hb hts in_X3 tyX3 tyX3_ok nmX3 hown hK hP hD hS 0 rfl rfl 2 (by decide) w_0 (fun _ h9 => h9) rfl (by decide +kernel) rfl rfl (Nat.le_of_ble_eq_true rfl) dX3_nextToken_96 (fun H locs hP hD hS => ?_)
            have hP : va_P (dC, dI) vwCl [(x0, .inr (2, [.int (zI ln), .ref x1, .int (zI (q + 1)), .int (zI ft), .int (zI 3), .int (zI q), .int (zI 0)])), (x1, .inl (cI, 200, .inl (zA bys)))] H := hP
            have hD : va_D A [(x0, .inr (2, [.int (zI ln), .ref x1, .int (zI (q + 1)), .int (zI ft), .int (zI 3), .int (zI q), .int (zI 0)])), (x1, .inl (cI, 200, .inl (zA bys)))] := hD
            refine lv_goto (tgt := 135) hx hb dX3_nextToken_99 (by decide) ?_
            rw [← hQQ]
            exact zw_vret hx hb hr hlocks ((q + 1), 3, q, 0) rfl ⟨(by exact heq), (by rw [← heq]; first | (rw [hp1_110, kK_w (by omega) c_106]; unfold ctk; (repeat' split) <;> first | rfl | omega) | (rw [hp1_124, kK_d (by omega) c_106 c_120]; unfold ctk; (repeat' split) <;> first | rfl | omega) | (rw [show kK ln bys q = 4 from if_pos (by omega)]; rfl) | (rw [kK_s (by omega) c_81]; rfl) | (rw [kK_o (by omega) c_106 c_120 c_81]; rfl)), (by rw [← heq]; intro h7; first | (rw [kK_w (by omega) c_106] at h7; rw [if_neg h7] at hp2_110; rw [hp0_110, kE_w (by omega) c_106, cVl_w (by omega) c_106 hw h7, hp2_110]; exact ⟨rfl, rfl⟩) | (rw [kK_d (by omega) c_106 c_120] at h7; rw [hp0_124, kE_d (by omega) c_106 c_120, cVl_d (by omega) c_106 c_120, hp2_124 (by by_cases z : nmOk ln bys q; exact z; exact absurd (if_neg z) h7)]; exact ⟨rfl, rfl⟩) | (exact kE_e (by omega)) | (exact kE_s (by omega) c_81) | (exfalso; exact h7 (kK_o (by omega) c_106 c_120 c_81)))⟩ hP hS dX3_nextToken_135
        · refine lv_aload_n hx hb dX3_nextToken_70 rfl (lv_at hl 1 rfl) ?_
          refine zv_iconst hx hb dX3_nextToken_71 ?_
          refine va_put (D := (dC, dI)) (ci := 2) (v := .int (zI 0)) (ty := .int) (C := RX3) (T := TX3) (N := 7) hx hb hts in_X3 tyX3 tyX3_ok nmX3 hown hK hP hD hS 0 rfl rfl 4 (by decide) w_4 (fun _ h9 => h9) rfl (by decide +kernel) rfl rfl (Nat.le_of_ble_eq_true rfl) dX3_nextToken_72 (fun H locs hP hD hS => ?_)
          have hP : va_P (dC, dI) vwCl [(x0, .inr (2, [.int (zI ln), .ref x1, .int (zI q), .int (zI ft), .int (zI 0), .int (zI q), .int (zI 0)])), (x1, .inl (cI, 200, .inl (zA bys)))] H := hP
          have hD : va_D A [(x0, .inr (2, [.int (zI ln), .ref x1, .int (zI q), .int (zI ft), .int (zI 0), .int (zI q), .int (zI 0)])), (x1, .inl (cI, 200, .inl (zA bys)))] := hD
          refine lv_goto (tgt := 135) hx hb dX3_nextToken_75 (by decide) ?_
          rw [← hQQ]
          exact zw_vret hx hb hr hlocks (q, 0, q, 0) rfl ⟨(by exact heq), (by rw [← heq]; first | (rw [hp1_110, kK_w (by omega) c_106]; unfold ctk; (repeat' split) <;> first | rfl | omega) | (rw [hp1_124, kK_d (by omega) c_106 c_120]; unfold ctk; (repeat' split) <;> first | rfl | omega) | (rw [show kK ln bys q = 4 from if_pos (by omega)]; rfl) | (rw [kK_s (by omega) c_81]; rfl) | (rw [kK_o (by omega) c_106 c_120 c_81]; rfl)), (by rw [← heq]; intro h7; first | (rw [kK_w (by omega) c_106] at h7; rw [if_neg h7] at hp2_110; rw [hp0_110, kE_w (by omega) c_106, cVl_w (by omega) c_106 hw h7, hp2_110]; exact ⟨rfl, rfl⟩) | (rw [kK_d (by omega) c_106 c_120] at h7; rw [hp0_124, kE_d (by omega) c_106 c_120, cVl_d (by omega) c_106 c_120, hp2_124 (by by_cases z : nmOk ln bys q; exact z; exact absurd (if_neg z) h7)]; exact ⟨rfl, rfl⟩) | (exact kE_e (by omega)) | (exact kE_s (by omega) c_81) | (exfalso; exact h7 (kK_o (by omega) c_106 c_120 c_81)))⟩ hP hS dX3_nextToken_135
      · have yq := hby q (by omega) (by omega)
        refine lv_aload_n hx hb dX3_nextToken_11 rfl (lv_at hl 0 rfl) ?_
        refine lv_aload_n hx hb dX3_nextToken_12 rfl (lv_at hl 0 rfl) ?_
        refine va_get (D := (dC, dI)) (ci := 2) (v := .int (zI q)) (C := RX3) (T := TX3) (N := 7) hx hb hts in_X3 hown hK hP 0 rfl rfl 2 (by decide) w_0 (fun _ h9 => h9) rfl dX3_nextToken_13 ?_
        refine zv_callRV (As := [.int (zI q)]) (rest := []) ⟨hx, hb, hml, hown, hts⟩ (c_X3_signAt l dC dI cI cB cZ x0 x1 ln q ft tk tS tv bys q (by omega) (by omega)) (cwV 1 hts gX3_nextToken_X3_signAt rfl rfl rfl (by decide +kernel) ⟨by rw [← hRM]; first | decide | (dsimp only; omega), by rw [← hRM]; first | decide | (dsimp only; omega)⟩) hP hK [0, 1] rfl [0, 1, 2] rfl zN_bl (zN_go hE) (q0 := 0) rfl rfl rfl rfl hl.1 rfl (Nat.le_of_ble_eq_true rfl) dX3_nextToken_16 ⟨Nat.zero_le _, Nat.zero_le _⟩ ?_
        rw [show (sgA ln bys q) = bys q from sgA_in (by omega)]
        refine zv_bipush hx hb dX3_nextToken_19 (by decide +kernel) ?_
        refine zv_icmp_ne (tgt := 37) hx hb (by omega) (by omega) dX3_nextToken_21 (by decide) (fun c_21 => ?_) (fun c_21 => ?_)
        · have heq : q = (tkS ln bys pl) := by unfold tkS; rw [← hsk]; exact (skE_n (by first | (intro z; omega) | (intro z; exact c_21 (of_decide_eq_true z.2)))).symm
          have ysg := sgA_r hby q
          refine lv_aload_n hx hb dX3_nextToken_37 rfl (lv_at hl 0 rfl) ?_
          refine lv_aload_n hx hb dX3_nextToken_38 rfl (lv_at hl 0 rfl) ?_
          refine va_get (D := (dC, dI)) (ci := 2) (v := .int (zI q)) (C := RX3) (T := TX3) (N := 7) hx hb hts in_X3 hown hK hP 0 rfl rfl 2 (by decide) w_0 (fun _ h9 => h9) rfl dX3_nextToken_39 ?_
          refine va_put (D := (dC, dI)) (ci := 2) (v := .int (zI q)) (ty := .int) (C := RX3) (T := TX3) (N := 7) hx hb hts in_X3 tyX3 tyX3_ok nmX3 hown hK hP hD hS 0 rfl rfl 5 (by decide) w_2 (fun _ h9 => h9) rfl (by decide +kernel) rfl rfl (Nat.le_of_ble_eq_true rfl) dX3_nextToken_42 (fun H locs hP hD hS => ?_)
          have hP : va_P (dC, dI) vwCl [(x0, .inr (2, [.int (zI ln), .ref x1, .int (zI q), .int (zI ft), .int (zI tk), .int (zI q), .int (zI tv)])), (x1, .inl (cI, 200, .inl (zA bys)))] H := hP
          have hD : va_D A [(x0, .inr (2, [.int (zI ln), .ref x1, .int (zI q), .int (zI ft), .int (zI tk), .int (zI q), .int (zI tv)])), (x1, .inl (cI, 200, .inl (zA bys)))] := hD
          refine lv_aload_n hx hb dX3_nextToken_45 rfl (lv_at hl 0 rfl) ?_
          refine zv_iconst hx hb dX3_nextToken_46 ?_
          refine va_put (D := (dC, dI)) (ci := 2) (v := .int (zI 0)) (ty := .int) (C := RX3) (T := TX3) (N := 7) hx hb hts in_X3 tyX3 tyX3_ok nmX3 hown hK hP hD hS 0 rfl rfl 6 (by decide) w_3 (fun _ h9 => h9) rfl (by decide +kernel) rfl rfl (Nat.le_of_ble_eq_true rfl) dX3_nextToken_47 (fun H locs hP hD hS => ?_)
          have hP : va_P (dC, dI) vwCl [(x0, .inr (2, [.int (zI ln), .ref x1, .int (zI q), .int (zI ft), .int (zI tk), .int (zI q), .int (zI 0)])), (x1, .inl (cI, 200, .inl (zA bys)))] H := hP
          have hD : va_D A [(x0, .inr (2, [.int (zI ln), .ref x1, .int (zI q), .int (zI ft), .int (zI tk), .int (zI q), .int (zI 0)])), (x1, .inl (cI, 200, .inl (zA bys)))] := hD
          refine lv_aload_n hx hb dX3_nextToken_50 rfl (lv_at hl 0 rfl) ?_
          refine lv_aload_n hx hb dX3_nextToken_51 rfl (lv_at hl 0 rfl) ?_
          refine va_get (D := (dC, dI)) (ci := 2) (v := .int (zI q)) (C := RX3) (T := TX3) (N := 7) hx hb hts in_X3 hown hK hP 0 rfl rfl 2 (by decide) w_0 (fun _ h9 => h9) rfl dX3_nextToken_52 ?_
          refine zv_callRV (As := [.int (zI q)]) (rest := []) ⟨hx, hb, hml, hown, hts⟩ (c_X3_signAt l dC dI cI cB cZ x0 x1 ln q ft tk q 0 bys q (by omega) (by omega)) (cwV 1 hts gX3_nextToken_X3_signAt rfl rfl rfl (by decide +kernel) ⟨by rw [← hRM]; first | decide | (dsimp only; omega), by rw [← hRM]; first | decide | (dsimp only; omega)⟩) hP hK [0, 1] rfl [0, 1, 2] rfl zN_bl (zN_go hE) (q0 := 0) rfl rfl rfl rfl hl.1 rfl (Nat.le_of_ble_eq_true rfl) dX3_nextToken_55 ⟨Nat.zero_le _, Nat.zero_le _⟩ ?_
          refine lv_istore_n (lv' := [(1, .int (zI (sgA ln bys q))), (0, .ref x0)]) hx hb dX3_nextToken_58 rfl hl (by decide) rfl (fun ls hl => ?_)
          refine lv_aload_n hx hb dX3_nextToken_59 rfl (lv_at hl 1 rfl) ?_
          refine va_get (D := (dC, dI)) (ci := 2) (v := .int (zI q)) (C := RX3) (T := TX3) (N := 7) hx hb hts in_X3 hown hK hP 0 rfl rfl 2 (by decide) w_0 (fun _ h9 => h9) rfl dX3_nextToken_60 ?_
          refine lv_aload_n hx hb dX3_nextToken_63 rfl (lv_at hl 1 rfl) ?_
          refine va_get (D := (dC, dI)) (ci := 2) (v := .int (zI ln)) (C := RX3) (T := TX3) (N := 7) hx hb hts in_X3 hown hK hP 0 rfl rfl 0 (by decide) w_1 (fun _ h9 => h9) rfl dX3_nextToken_64 ?_
          refine zv_icmp_lt (tgt := 78) hx hb (by omega) (by omega) dX3_nextToken_67 (by decide) (fun c_67 => ?_) (fun c_67 => ?_)
          · rw [sgA_in (ln := ln) (bys := bys) (k := q) (by omega)] at hl
            have yq := hby q (by omega) (by omega)
            refine lv_iload_n hx hb dX3_nextToken_78 rfl (lv_at hl 0 rfl) ?_
            refine zv_bipush hx hb dX3_nextToken_79 (by decide +kernel) ?_
            refine zv_icmp_ne (tgt := 102) hx hb (by omega) (by omega) dX3_nextToken_81 (by decide) (fun c_81 => ?_) (fun c_81 => ?_)
            · refine lv_iload_n hx hb dX3_nextToken_102 rfl (lv_at hl 0 rfl) ?_
              refine zv_callRS (As := [.int (zI (bys q))]) (rest := []) ⟨hx, hb, hml, hown, hts⟩ (c_X3_isLetter l dC dI cI cB cZ (bys q) (by omega)) (va_cwS 1 hts gX3_nextToken_X3_isLetter rfl rfl rfl (by decide +kernel) ⟨by rw [← hRM]; first | decide | (dsimp only; omega), by rw [← hRM]; first | decide | (dsimp only; omega)⟩) hP hK [] rfl [0, 1, 2] rfl zN_bl (zN_go hE) rfl hl.1 rfl (Nat.le_of_ble_eq_true rfl) dX3_nextToken_103 ⟨Nat.zero_le _, Nat.zero_le _⟩ ?_
              refine zv_ifeq_b (tgt := 116) hx hb dX3_nextToken_106 (by decide) (fun c_106 => ?_) (fun c_106 => ?_)
              · refine lv_iload_n hx hb dX3_nextToken_116 rfl (lv_at hl 0 rfl) ?_
                refine zv_callRS (As := [.int (zI (bys q))]) (rest := []) ⟨hx, hb, hml, hown, hts⟩ (c_X3_isDigit l dC dI cI cB cZ (bys q) (by omega)) (va_cwS 1 hts gX3_nextToken_X3_isDigit rfl rfl rfl (by decide +kernel) ⟨by rw [← hRM]; first | decide | (dsimp only; omega), by rw [← hRM]; first | decide | (dsimp only; omega)⟩) hP hK [] rfl [0, 1, 2] rfl zN_bl (zN_go hE) rfl hl.1 rfl (Nat.le_of_ble_eq_true rfl) dX3_nextToken_117 ⟨Nat.zero_le _, Nat.zero_le _⟩ ?_
                refine zv_ifeq_b (tgt := 130) hx hb dX3_nextToken_120 (by decide) (fun c_120 => ?_) (fun c_120 => ?_)
                · refine lv_aload_n hx hb dX3_nextToken_130 rfl (lv_at hl 1 rfl) ?_
                  refine zv_iconst hx hb dX3_nextToken_131 ?_
                  refine va_put (D := (dC, dI)) (ci := 2) (v := .int (zI 4)) (ty := .int) (C := RX3) (T := TX3) (N := 7) hx hb hts in_X3 tyX3 tyX3_ok nmX3 hown hK hP hD hS 0 rfl rfl 4 (by decide) w_4 (fun _ h9 => h9) rfl (by decide +kernel) rfl rfl (Nat.le_of_ble_eq_true rfl) dX3_nextToken_132 (fun H locs hP hD hS => ?_)
                  have hP : va_P (dC, dI) vwCl [(x0, .inr (2, [.int (zI ln), .ref x1, .int (zI q), .int (zI ft), .int (zI 4), .int (zI q), .int (zI 0)])), (x1, .inl (cI, 200, .inl (zA bys)))] H := hP
                  have hD : va_D A [(x0, .inr (2, [.int (zI ln), .ref x1, .int (zI q), .int (zI ft), .int (zI 4), .int (zI q), .int (zI 0)])), (x1, .inl (cI, 200, .inl (zA bys)))] := hD
                  rw [← hQQ]
                  exact zw_vret hx hb hr hlocks (q, 4, q, 0) rfl ⟨(by exact heq), (by rw [← heq]; first | (rw [hp1_110, kK_w (by omega) c_106]; unfold ctk; (repeat' split) <;> first | rfl | omega) | (rw [hp1_124, kK_d (by omega) c_106 c_120]; unfold ctk; (repeat' split) <;> first | rfl | omega) | (rw [show kK ln bys q = 4 from if_pos (by omega)]; rfl) | (rw [kK_s (by omega) c_81]; rfl) | (rw [kK_o (by omega) c_106 c_120 c_81]; rfl)), (by rw [← heq]; intro h7; first | (rw [kK_w (by omega) c_106] at h7; rw [if_neg h7] at hp2_110; rw [hp0_110, kE_w (by omega) c_106, cVl_w (by omega) c_106 hw h7, hp2_110]; exact ⟨rfl, rfl⟩) | (rw [kK_d (by omega) c_106 c_120] at h7; rw [hp0_124, kE_d (by omega) c_106 c_120, cVl_d (by omega) c_106 c_120, hp2_124 (by by_cases z : nmOk ln bys q; exact z; exact absurd (if_neg z) h7)]; exact ⟨rfl, rfl⟩) | (exact kE_e (by omega)) | (exact kE_s (by omega) c_81) | (exfalso; exact h7 (kK_o (by omega) c_106 c_120 c_81)))⟩ hP hS dX3_nextToken_135
                · refine lv_aload_n hx hb dX3_nextToken_123 rfl (lv_at hl 1 rfl) ?_
                  refine zv_callWV (As := []) (rest := []) (ws2 := fun u => [(x0, .inr (2, [.int (zI ln), .ref x1, .int (zI u.1), .int (zI ft), .int (zI u.2.1), .int (zI q), .int (zI u.2.2)])), (x1, .inl (cI, 200, .inl (zA bys)))]) ⟨hx, hb, hml, hown, hts⟩ (c_X3_readNumber l dC dI cI cB cZ x0 x1 ln q ft tk q bys (by omega) (by exact hby) (by omega) (by exact c_120)) (cwV 0 hts gX3_nextToken_X3_readNumber rfl rfl rfl (by decide +kernel) ⟨by rw [← hRM]; first | decide | (dsimp only; omega), by rw [← hRM]; first | decide | (dsimp only; omega)⟩) hP hD hS hA hK [0, 1] rfl (by decide) [0, 1, 2] rfl zN_bl (zN_go hE) (fun _ => rfl) (fun _ => rfl) (q0 := 0) rfl rfl rfl rfl hl.1 rfl (Nat.le_of_ble_eq_true rfl) dX3_nextToken_124 ⟨Nat.zero_le _, Nat.zero_le _⟩ (fun u H locs hpo hP hD hS => ?_)
                  obtain ⟨pl2_124, tk2_124, tv2_124⟩ := u
                  have hp0_124 : pl2_124 = skE isDi ln bys q := hpo.1
                  have hp1_124 : tk2_124 = if nmOk ln bys q then 2 else 4 := hpo.2.1
                  have hp2_124 : nmOk ln bys q → tv2_124 = nmV ln bys q := hpo.2.2
                  have hP : va_P (dC, dI) vwCl [(x0, .inr (2, [.int (zI ln), .ref x1, .int (zI pl2_124), .int (zI ft), .int (zI tk2_124), .int (zI q), .int (zI tv2_124)])), (x1, .inl (cI, 200, .inl (zA bys)))] H := hP
                  have hD : va_D A [(x0, .inr (2, [.int (zI ln), .ref x1, .int (zI pl2_124), .int (zI ft), .int (zI tk2_124), .int (zI q), .int (zI tv2_124)])), (x1, .inl (cI, 200, .inl (zA bys)))] := hD
                  refine W.eq (g2 := F0 m 127 ls []) rfl ?_
                  refine lv_goto (tgt := 135) hx hb dX3_nextToken_127 (by decide) ?_
                  rw [← hQQ]
                  exact zw_vret hx hb hr hlocks (pl2_124, tk2_124, q, tv2_124) rfl ⟨(by exact heq), (by rw [← heq]; first | (rw [hp1_110, kK_w (by omega) c_106]; unfold ctk; (repeat' split) <;> first | rfl | omega) | (rw [hp1_124, kK_d (by omega) c_106 c_120]; unfold ctk; (repeat' split) <;> first | rfl | omega) | (rw [show kK ln bys q = 4 from if_pos (by omega)]; rfl) | (rw [kK_s (by omega) c_81]; rfl) | (rw [kK_o (by omega) c_106 c_120 c_81]; rfl)), (by rw [← heq]; intro h7; first | (rw [kK_w (by omega) c_106] at h7; rw [if_neg h7] at hp2_110; rw [hp0_110, kE_w (by omega) c_106, cVl_w (by omega) c_106 hw h7, hp2_110]; exact ⟨rfl, rfl⟩) | (rw [kK_d (by omega) c_106 c_120] at h7; rw [hp0_124, kE_d (by omega) c_106 c_120, cVl_d (by omega) c_106 c_120, hp2_124 (by by_cases z : nmOk ln bys q; exact z; exact absurd (if_neg z) h7)]; exact ⟨rfl, rfl⟩) | (exact kE_e (by omega)) | (exact kE_s (by omega) c_81) | (exfalso; exact h7 (kK_o (by omega) c_106 c_120 c_81)))⟩ hP hS dX3_nextToken_135
              · refine lv_aload_n hx hb dX3_nextToken_109 rfl (lv_at hl 1 rfl) ?_
                refine zv_callXV (As := []) (rest := []) (ws2 := fun u => [(x0, .inr (2, [.int (zI ln), .ref x1, .int (zI u.1), .int (zI ft), .int (zI u.2.1), .int (zI q), .int (zI u.2.2)])), (x1, .inl (cI, 200, .inl (zA bys)))]) ⟨hx, hb, hml, hown, hts⟩ (c_X3_readWord l dC dI cI cB cZ x0 x1 ln q ft tk q bys adK adV kt (by omega) (by exact hby) (by omega) (by exact c_106)) (cwV 0 hts gX3_nextToken_X3_readWord rfl rfl rfl (by decide +kernel) ⟨by rw [← hRM]; first | decide | (dsimp only; omega), by rw [← hRM]; first | decide | (dsimp only; omega)⟩) hP hD hS hA hK [0, 1] rfl (by decide) [0, 1, 2] rfl zX_bl (zX_go hEX hS) (fun _ => rfl) (fun _ => rfl) (q0 := 0) rfl rfl rfl rfl hl.1 rfl (Nat.le_of_ble_eq_true rfl) dX3_nextToken_110 ⟨Nat.zero_le _, Nat.zero_le _⟩ (fun u H locs hpo hP hD hS => ?_)
                obtain ⟨pl2_110, tk2_110, tv2_110⟩ := u
                have hp0_110 : pl2_110 = skE isLe ln bys q := hpo.1
                have hp1_110 : tk2_110 = if wdK ln bys q (skE isLe ln bys q) = 7 then 4 else 1 := hpo.2.1
                have hp2_110 : tv2_110 = if wdK ln bys q (skE isLe ln bys q) = 7 then 0 else wdK ln bys q (skE isLe ln bys q) := hpo.2.2
                have hP : va_P (dC, dI) vwCl [(x0, .inr (2, [.int (zI ln), .ref x1, .int (zI pl2_110), .int (zI ft), .int (zI tk2_110), .int (zI q), .int (zI tv2_110)])), (x1, .inl (cI, 200, .inl (zA bys)))] H := hP
                have hD : va_D A [(x0, .inr (2, [.int (zI ln), .ref x1, .int (zI pl2_110), .int (zI ft), .int (zI tk2_110), .int (zI q), .int (zI tv2_110)])), (x1, .inl (cI, 200, .inl (zA bys)))] := hD
                refine W.eq (g2 := F0 m 113 ls []) rfl ?_
                have hw := wdK_r ln bys q (skE isLe ln bys q)
                refine lv_goto (tgt := 135) hx hb dX3_nextToken_113 (by decide) ?_
                rw [← hQQ]
                exact zw_vret hx hb hr hlocks (pl2_110, tk2_110, q, tv2_110) rfl ⟨(by exact heq), (by rw [← heq]; first | (rw [hp1_110, kK_w (by omega) c_106]; unfold ctk; (repeat' split) <;> first | rfl | omega) | (rw [hp1_124, kK_d (by omega) c_106 c_120]; unfold ctk; (repeat' split) <;> first | rfl | omega) | (rw [show kK ln bys q = 4 from if_pos (by omega)]; rfl) | (rw [kK_s (by omega) c_81]; rfl) | (rw [kK_o (by omega) c_106 c_120 c_81]; rfl)), (by rw [← heq]; intro h7; first | (rw [kK_w (by omega) c_106] at h7; rw [if_neg h7] at hp2_110; rw [hp0_110, kE_w (by omega) c_106, cVl_w (by omega) c_106 hw h7, hp2_110]; exact ⟨rfl, rfl⟩) | (rw [kK_d (by omega) c_106 c_120] at h7; rw [hp0_124, kE_d (by omega) c_106 c_120, cVl_d (by omega) c_106 c_120, hp2_124 (by by_cases z : nmOk ln bys q; exact z; exact absurd (if_neg z) h7)]; exact ⟨rfl, rfl⟩) | (exact kE_e (by omega)) | (exact kE_s (by omega) c_81) | (exfalso; exact h7 (kK_o (by omega) c_106 c_120 c_81)))⟩ hP hS dX3_nextToken_135
            · refine lv_aload_n hx hb dX3_nextToken_84 rfl (lv_at hl 1 rfl) ?_
              refine zv_iconst hx hb dX3_nextToken_85 ?_
              refine va_put (D := (dC, dI)) (ci := 2) (v := .int (zI 3)) (ty := .int) (C := RX3) (T := TX3) (N := 7) hx hb hts in_X3 tyX3 tyX3_ok nmX3 hown hK hP hD hS 0 rfl rfl 4 (by decide) w_4 (fun _ h9 => h9) rfl (by decide +kernel) rfl rfl (Nat.le_of_ble_eq_true rfl) dX3_nextToken_86 (fun H locs hP hD hS => ?_)
              have hP : va_P (dC, dI) vwCl [(x0, .inr (2, [.int (zI ln), .ref x1, .int (zI q), .int (zI ft), .int (zI 3), .int (zI q), .int (zI 0)])), (x1, .inl (cI, 200, .inl (zA bys)))] H := hP
              have hD : va_D A [(x0, .inr (2, [.int (zI ln), .ref x1, .int (zI q), .int (zI ft), .int (zI 3), .int (zI q), .int (zI 0)])), (x1, .inl (cI, 200, .inl (zA bys)))] := hD
              refine lv_aload_n hx hb dX3_nextToken_89 rfl (lv_at hl 1 rfl) ?_
              refine lv_dup hx hb dX3_nextToken_90 rfl ?_
              refine va_get (D := (dC, dI)) (ci := 2) (v := .int (zI q)) (C := RX3) (T := TX3) (N := 7) hx hb hts in_X3 hown hK hP 0 rfl rfl 2 (by decide) w_0 (fun _ h9 => h9) rfl dX3_nextToken_91 ?_
              refine zv_iconst hx hb dX3_nextToken_94 ?_
              refine zv_iadd hx hb dX3_nextToken_95 ?_
              refine va_put (D := (dC, dI)) (ci := 2) (v := .int (zI (q + 1))) (ty := .int) (C := RX3) (T := TX3) (N := 7) hx hb hts in_X3 tyX3 tyX3_ok nmX3 hown hK hP hD hS 0 rfl rfl 2 (by decide) w_0 (fun _ h9 => h9) rfl (by decide +kernel) rfl rfl (Nat.le_of_ble_eq_true rfl) dX3_nextToken_96 (fun H locs hP hD hS => ?_)
              have hP : va_P (dC, dI) vwCl [(x0, .inr (2, [.int (zI ln), .ref x1, .int (zI (q + 1)), .int (zI ft), .int (zI 3), .int (zI q), .int (zI 0)])), (x1, .inl (cI, 200, .inl (zA bys)))] H := hP
              have hD : va_D A [(x0, .inr (2, [.int (zI ln), .ref x1, .int (zI (q + 1)), .int (zI ft), .int (zI 3), .int (zI q), .int (zI 0)])), (x1, .inl (cI, 200, .inl (zA bys)))] := hD
              refine lv_goto (tgt := 135) hx hb dX3_nextToken_99 (by decide) ?_
              rw [← hQQ]
              exact zw_vret hx hb hr hlocks ((q + 1), 3, q, 0) rfl ⟨(by exact heq), (by rw [← heq]; first | (rw [hp1_110, kK_w (by omega) c_106]; unfold ctk; (repeat' split) <;> first | rfl | omega) | (rw [hp1_124, kK_d (by omega) c_106 c_120]; unfold ctk; (repeat' split) <;> first | rfl | omega) | (rw [show kK ln bys q = 4 from if_pos (by omega)]; rfl) | (rw [kK_s (by omega) c_81]; rfl) | (rw [kK_o (by omega) c_106 c_120 c_81]; rfl)), (by rw [← heq]; intro h7; first | (rw [kK_w (by omega) c_106] at h7; rw [if_neg h7] at hp2_110; rw [hp0_110, kE_w (by omega) c_106, cVl_w (by omega) c_106 hw h7, hp2_110]; exact ⟨rfl, rfl⟩) | (rw [kK_d (by omega) c_106 c_120] at h7; rw [hp0_124, kE_d (by omega) c_106 c_120, cVl_d (by omega) c_106 c_120, hp2_124 (by by_cases z : nmOk ln bys q; exact z; exact absurd (if_neg z) h7)]; exact ⟨rfl, rfl⟩) | (exact kE_e (by omega)) | (exact kE_s (by omega) c_81) | (exfalso; exact h7 (kK_o (by omega) c_106 c_120 c_81)))⟩ hP hS dX3_nextToken_135
          · refine lv_aload_n hx hb dX3_nextToken_70 rfl (lv_at hl 1 rfl) ?_
            refine zv_iconst hx hb dX3_nextToken_71 ?_
            refine va_put (D := (dC, dI)) (ci := 2) (v := .int (zI 0)) (ty := .int) (C := RX3) (T := TX3) (N := 7) hx hb hts in_X3 tyX3 tyX3_ok nmX3 hown hK hP hD hS 0 rfl rfl 4 (by decide) w_4 (fun _ h9 => h9) rfl (by decide +kernel) rfl rfl (Nat.le_of_ble_eq_true rfl) dX3_nextToken_72 (fun H locs hP hD hS => ?_)
            have hP : va_P (dC, dI) vwCl [(x0, .inr (2, [.int (zI ln), .ref x1, .int (zI q), .int (zI ft), .int (zI 0), .int (zI q), .int (zI 0)])), (x1, .inl (cI, 200, .inl (zA bys)))] H := hP
            have hD : va_D A [(x0, .inr (2, [.int (zI ln), .ref x1, .int (zI q), .int (zI ft), .int (zI 0), .int (zI q), .int (zI 0)])), (x1, .inl (cI, 200, .inl (zA bys)))] := hD
            refine lv_goto (tgt := 135) hx hb dX3_nextToken_75 (by decide) ?_
            rw [← hQQ]
            exact zw_vret hx hb hr hlocks (q, 0, q, 0) rfl ⟨(by exact heq), (by rw [← heq]; first | (rw [hp1_110, kK_w (by omega) c_106]; unfold ctk; (repeat' split) <;> first | rfl | omega) | (rw [hp1_124, kK_d (by omega) c_106 c_120]; unfold ctk; (repeat' split) <;> first | rfl | omega) | (rw [show kK ln bys q = 4 from if_pos (by omega)]; rfl) | (rw [kK_s (by omega) c_81]; rfl) | (rw [kK_o (by omega) c_106 c_120 c_81]; rfl)), (by rw [← heq]; intro h7; first | (rw [kK_w (by omega) c_106] at h7; rw [if_neg h7] at hp2_110; rw [hp0_110, kE_w (by omega) c_106, cVl_w (by omega) c_106 hw h7, hp2_110]; exact ⟨rfl, rfl⟩) | (rw [kK_d (by omega) c_106 c_120] at h7; rw [hp0_124, kE_d (by omega) c_106 c_120, cVl_d (by omega) c_106 c_120, hp2_124 (by by_cases z : nmOk ln bys q; exact z; exact absurd (if_neg z) h7)]; exact ⟨rfl, rfl⟩) | (exact kE_e (by omega)) | (exact kE_s (by omega) c_81) | (exfalso; exact h7 (kK_o (by omega) c_106 c_120 c_81)))⟩ hP hS dX3_nextToken_135
        · refine lv_aload_n hx hb dX3_nextToken_24 rfl (lv_at hl 0 rfl) ?_
          refine lv_dup hx hb dX3_nextToken_25 rfl ?_
          refine va_get (D := (dC, dI)) (ci := 2) (v := .int (zI q)) (C := RX3) (T := TX3) (N := 7) hx hb hts in_X3 hown hK hP 0 rfl rfl 2 (by decide) w_0 (fun _ h9 => h9) rfl dX3_nextToken_26 ?_
          refine zv_iconst hx hb dX3_nextToken_29 ?_
          refine zv_iadd hx hb dX3_nextToken_30 ?_
          refine va_put (D := (dC, dI)) (ci := 2) (v := .int (zI (q + 1))) (ty := .int) (C := RX3) (T := TX3) (N := 7) hx hb hts in_X3 tyX3 tyX3_ok nmX3 hown hK hP hD hS 0 rfl rfl 2 (by decide) w_0 (fun _ h9 => h9) rfl (by decide +kernel) rfl rfl (Nat.le_of_ble_eq_true rfl) dX3_nextToken_31 (fun H locs hP hD hS => ?_)
          have hP : va_P (dC, dI) vwCl [(x0, .inr (2, [.int (zI ln), .ref x1, .int (zI (q + 1)), .int (zI ft), .int (zI tk), .int (zI tS), .int (zI tv)])), (x1, .inl (cI, 200, .inl (zA bys)))] H := hP
          have hD : va_D A [(x0, .inr (2, [.int (zI ln), .ref x1, .int (zI (q + 1)), .int (zI ft), .int (zI tk), .int (zI tS), .int (zI tv)])), (x1, .inl (cI, 200, .inl (zA bys)))] := hD
          refine lv_goto (tgt := 0) hx hb dX3_nextToken_34 (by decide) ?_
          exact ih0 (q + 1) (by omega) (by omega) (by rw [← hsk]; exact (skE_s (by omega) (decide_eq_true c_21)).symm) _ _ hP hD hS _ (lv_sub hl [0] rfl)
  exact cut0 _ pl (Nat.lt_succ_self _) (by omega) (by rfl) _ _ hP hD hS _ (lv_sub hl [0] rfl)
