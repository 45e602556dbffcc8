set_option maxHeartbeats 4000000 in
set_option maxRecDepth 100000 in
theorem c_X5_brings (l : Launch) (dC : Nat → ClassId) (dI : Nat → Nat → Nat) (cI cB cZ : ClassId) (w0 : Nat) (x0 : Nat) (h0 : Nat) (g0 : Nat) (p0 : Nat) (q0 : Nat) (r0 : Nat) (fk : Int) (sk : Int) (t0 : Nat) (b1 : Nat) (b2 : Nat) (tr : Int64) (h1 : Nat) (h2 : Nat) (h3 : Nat) (h4 : Nat) (n : Int) (so : Int → Int) (le : Int → Int) (ri : Int → Int) (ti : Int → Int) (p1 : Nat) (p2 : Nat) (st : Int → Int) (lo : Int) (li : Int) (kn : Int) (al : Int → Int) (ah : Int → Int) (v : Int) (i : Int) (hh : hOk n so le ri ti) (hs : sOk n so ti st) (hlo : -9 ≤ lo ∧ lo ≤ 8) (hv : -2147483648 ≤ v ∧ v ≤ 2147483647) (hi : -2147483648 ≤ i ∧ i ≤ 2147483647) : MetR l yX5_brings wsX5_brings ({ frames := 2, cells := 0, slots := 0, locals := 52 }) (dC, dI) vwCl (zT cI cB cZ) zN [(w0, .inr (4, [.ref x0, .ref h0, .ref g0, .ref p0, .ref q0, .ref r0, .int (zI fk), .int (zI sk), .ref t0, .ref b1, .ref b2, .long tr])), (h0, .inr (0, [.int (zI n), .ref h1, .ref h2, .ref h3, .ref h4])), (h1, .inl (cI, 9, .inl (zA so))), (h2, .inl (cI, 9, .inl (zA le))), (h3, .inl (cI, 9, .inl (zA ri))), (h4, .inl (cI, 9, .inl (zA ti))), (p0, .inr (1, [.int (zI (pk st)), .int (zI lo), .int (zI li), .int (zI kn), .ref p1, .ref p2])), (p1, .inl (cI, 9, .inl (zA al))), (p2, .inl (cI, 20, .inl (zA ah)))] [.ref w0, .int (zI v), .int (zI i)] (zI (q_brings so le ri ti lo n st v i)) := by
  refine MetR.intro (cc := cX5_brings) (maxL := 6) (ret := (some .int)) (by decide) rfl (Nat.le_of_ble_eq_true rfl) ?_
  intro p e s m args below meth c hx hb hr hlocks hml hts hown hP hK hE ls hl
  have hown : s.vm.findClass RX5 = some m.cls := hown
  have hl : lv_has ls 6 [(0, .ref w0), (1, .int (zI v)), (2, .int (zI i))] := hl
  generalize hRM : ({ frames := 2, cells := 0, slots := 0, locals := 52 } : Room) = RM
  generalize hQQ : MQ below (vp_Si (fun r => r = zI (q_brings so le ri ti lo n st v i))) args s 0 0 (fun _ => False) = QQ
  have in_X0 : ∀ w ∈ wsX00, w ∈ wsX5_brings := by decide +kernel
  have in_X1 : ∀ w ∈ wsX10, w ∈ wsX5_brings := by decide +kernel
  have in_X5 : ∀ w ∈ wsX50, w ∈ wsX5_brings := by decide +kernel
  have w_0 := hts (.fieldLink RX5 19 "WallMarbles" "built" "LWallMarbles$House;") (by decide +kernel)
  have w_1 := hts (.fieldLink RX5 29 "WallMarbles" "present" "LWallMarbles$Present;") (by decide +kernel)
  have n_116 := va_Nw.use (A := args) rfl (zN_4 hE)
  have n_78 := va_Nw.use (A := args) rfl (zN_2 hE)
  have n_98 := va_Nw.use (A := args) rfl (zN_3 hE)
  have hn := hh.1
  have h7 := sOk_s7 hh hs
  have cut59 : ∀ (nM : Nat) (j : Int) (su : Int → Int) (cc : Int) (rs : List Int),  ((i + 1 - j).toNat) < nM → (0 ≤ j ∧ j ≤ i + 1) → (1 ≤ n) → (rowB v = true) → (0 ≤ i ∧ i < ((rw v).length : Int)) → (rs = (rw v).drop j.toNat) → (su = rnT so le ri ti lo n st (mz v) j.toNat) → ((j = 0 ∧ cc = -9) ∨ (1 ≤ j ∧ cc = rnC so le ri ti lo n st (mz v) (j - 1).toNat)) → (sOk n so ti su) → (cc = -9 ∨ (0 ≤ cc ∧ cc ≤ 8)) → ∀ ls : Array Slot, lv_has ls 6 [(0, .ref w0), (2, .int (zI i)), (3, .int (zI (vl rs))), (4, .int (zI (oc (pk su) cc))), (5, .int (zI j))] → W p l e RM s m args below meth c s.heap [] 0 0 QQ (F0 m 59 ls []) := by
    intro nM
    induction nM with
    | zero => intro j su cc rs hmu; exact absurd hmu (Nat.not_lt_zero _)
    | succ nM ih59 =>
      intro j su cc rs hmu hj hn1 hrow hlen hrs hsu hcc hso hc8 ls hl
      have l9 := ds_len9 (rowB_rng hrow)
      have rl := rw_len v
      refine lv_iload hx hb dX5_brings_59 (lv_at hl 4 rfl) ?_
      refine lv_iload_n hx hb dX5_brings_61 rfl (lv_at hl 1 rfl) ?_
      refine zv_icmp_gt (tgt := 110) hx hb (by omega) (by omega) dX5_brings_62 (by decide) (fun c_62 => ?_) (fun c_62 => ?_)
      · refine lv_iload hx hb dX5_brings_110 (lv_at hl 3 rfl) ?_
        refine zv_callRS (As := [.int (zI (oc (pk su) cc))]) (rest := []) ⟨hx, hb, hml, hown, hts⟩ (c_X2_comesOf l dC dI cI cB cZ su cc (by exact sOk_s7 hh hso) (by omega)) (va_cwS 1 hts gX5_brings_X2_comesOf rfl rfl rfl (by decide +kernel) ⟨by rw [← hRM]; first | decide | (dsimp only; omega), by rw [← hRM]; first | decide | (dsimp only; omega)⟩) hP hK [] rfl [0, 1, 2] rfl zN_bl (zN_go hE) rfl hl.1 rfl (Nat.le_of_ble_eq_true rfl) dX5_brings_112 ⟨Nat.zero_le _, Nat.zero_le _⟩ ?_
        rw [← hQQ]
        exact zr_iret hx hb hr hlocks (congrArg zI (show cc = q_brings so le ri ti lo n st v i from by unfold q_brings; rw [if_pos ⟨hrow, hlen.1⟩, if_neg (by omega), if_neg (by omega)]; rcases hcc with q | q; omega; rw [q.2, show j - 1 = i by omega])) dX5_brings_115
      · refine lv_iload hx hb dX5_brings_65 (lv_at hl 4 rfl) ?_
        refine zv_bipush hx hb dX5_brings_67 (by decide +kernel) ?_
        refine zv_icmp_ge (tgt := 110) hx hb (by omega) (by omega) dX5_brings_69 (by decide) (fun c_69 => ?_) (fun c_69 => ?_)
        · exfalso; omega
        · obtain ⟨dd, tt, e1, e2, e3, e4, m10, q10, v9, w9⟩ := rw_at hrow (j := j) (by omega) (by omega)
          rw [← hrs] at e1
          rw [← e1] at m10 q10 v9 w9
          obtain ⟨g1, g2⟩ := goS_ok hh lo (dd - 1) 9 su (n - 1) (by omega) (by omega) hso
          refine lv_aload_n hx hb dX5_brings_72 rfl (lv_at hl 0 rfl) ?_
          refine va_get (D := (dC, dI)) (ci := 4) (v := .ref h0) (C := RX5) (T := TX5) (N := 12) hx hb hts in_X5 hown hK hP 0 rfl rfl 1 (by decide) w_0 (fun _ h9 => h9) rfl dX5_brings_73 ?_
          refine lv_iload hx hb dX5_brings_76 (lv_at hl 3 rfl) ?_
          refine zv_callRS (As := [.int (zI (oc (pk su) cc))]) (rest := [.ref h0]) ⟨hx, hb, hml, hown, hts⟩ (c_X2_standingOf l dC dI cI cB cZ su cc (by exact sOk_s7 hh hso) (by omega)) (va_cwS 1 hts gX5_brings_X2_standingOf rfl rfl rfl (by decide +kernel) ⟨by rw [← hRM]; first | decide | (dsimp only; omega), by rw [← hRM]; first | decide | (dsimp only; omega)⟩) hP hK [] rfl [0, 1, 2] rfl zN_bl (zN_go hE) rfl hl.1 rfl (Nat.le_of_ble_eq_true rfl) dX5_brings_78 ⟨Nat.zero_le _, Nat.zero_le _⟩ ?_
          refine lv_iload_n hx hb dX5_brings_81 rfl (lv_at hl 2 rfl) ?_
          refine zv_bipush hx hb dX5_brings_82 (by decide +kernel) ?_
          refine zv_irem hx hb (by omega) dX5_brings_84 ?_
          rw [show ((vl rs) % 10) = dd from m10]
          refine zv_iconst hx hb dX5_brings_85 ?_
          refine zv_isub hx hb dX5_brings_86 ?_
          refine lv_aload_n hx hb dX5_brings_87 rfl (lv_at hl 0 rfl) ?_
          refine va_get (D := (dC, dI)) (ci := 4) (v := .ref p0) (C := RX5) (T := TX5) (N := 12) hx hb hts in_X5 hown hK hP 0 rfl rfl 3 (by decide) w_1 (fun _ h9 => h9) rfl dX5_brings_88 ?_
          refine va_getN (D := (dC, dI)) (ci := 1) (v := .int (zI lo)) (C := RX1) (T := TX1) (N := 6) hx hb hts in_X1 hown hK hP 6 rfl rfl 1 (by decide) n_116 (fun _ h9 => h9) rfl dX5_brings_91 ?_
          refine zv_callRV (As := [.int (zI (pk su)), .int (zI (dd - 1)), .int (zI lo)]) (rest := []) ⟨hx, hb, hml, hown, hts⟩ (c_X0_fall l dC dI cI cB cZ h0 h1 h2 h3 h4 n so le ri ti su (dd - 1) lo (by exact hh) (by omega) (by exact hso) (by omega) (by omega)) (cwV 3 hts gX5_brings_X0_fall rfl rfl rfl (by decide +kernel) ⟨by rw [← hRM]; first | decide | (dsimp only; omega), by rw [← hRM]; first | decide | (dsimp only; omega)⟩) hP hK [1, 2, 3, 4, 5] rfl [0, 1, 2] rfl zN_bl (zN_go hE) (q0 := 0) rfl rfl rfl rfl hl.1 rfl (Nat.le_of_ble_eq_true rfl) dX5_brings_94 ⟨Nat.zero_le _, Nat.zero_le _⟩ ?_
          refine lv_istore (lv' := [(4, .int (zI (oc (pk (goS so le ri ti lo (dd - 1) 9 su (n - 1)).1) (goS so le ri ti lo (dd - 1) 9 su (n - 1)).2))), (0, .ref w0), (2, .int (zI i)), (3, .int (zI (vl rs))), (5, .int (zI j))]) hx hb dX5_brings_97 hl (by decide) rfl (fun ls hl => ?_)
          refine lv_iload_n hx hb dX5_brings_99 rfl (lv_at hl 3 rfl) ?_
          refine zv_bipush hx hb dX5_brings_100 (by decide +kernel) ?_
          refine zv_idiv hx hb (by omega) dX5_brings_102 ?_
          rw [show ((vl rs) / 10) = vl tt from q10]
          refine lv_istore_n (lv' := [(3, .int (zI (vl tt))), (4, .int (zI (oc (pk (goS so le ri ti lo (dd - 1) 9 su (n - 1)).1) (goS so le ri ti lo (dd - 1) 9 su (n - 1)).2))), (0, .ref w0), (2, .int (zI i)), (5, .int (zI j))]) hx hb dX5_brings_103 rfl hl (by decide) rfl (fun ls hl => ?_)
          refine zv_iinc (k := 4) (a := j) (n := 1) (lv' := [(5, .int (zI (j + 1))), (3, .int (zI (vl tt))), (4, .int (zI (oc (pk (goS so le ri ti lo (dd - 1) 9 su (n - 1)).1) (goS so le ri ti lo (dd - 1) 9 su (n - 1)).2))), (0, .ref w0), (2, .int (zI i))]) hx hb dX5_brings_104 hl rfl (by decide) rfl (fun ls hl => ?_)
          refine lv_goto (tgt := 59) hx hb dX5_brings_107 (by decide) ?_
          exact ih59 (j + 1) ((goS so le ri ti lo (dd - 1) 9 su (n - 1)).1) ((goS so le ri ti lo (dd - 1) 9 su (n - 1)).2) tt (by omega) (by omega) (by omega) (by exact hrow) (by omega) (by exact e2.symm) (by rw [rnT_s (by omega), e3, ← hsu]) (by refine Or.inr ⟨by omega, ?_⟩; rw [show j + 1 - 1 = j by omega]; unfold rnC; rw [Int.toNat_of_nonneg (by omega), e3, ← hsu]) (by exact g1) (by omega) _ (lv_sub hl [3, 4, 1, 2, 0] rfl)
  refine lv_iload_n hx hb dX5_brings_0 rfl (lv_at hl 1 rfl) ?_
  refine zv_callRS (As := [.int (zI v)]) (rest := []) ⟨hx, hb, hml, hown, hts⟩ (c_X5_isRow l dC dI cI cB cZ v (by omega)) (va_cwS 1 hts gX5_brings_X5_isRow rfl rfl rfl (by decide +kernel) ⟨by rw [← hRM]; first | decide | (dsimp only; omega), by rw [← hRM]; first | decide | (dsimp only; omega)⟩) hP hK [] rfl [0, 1, 2] rfl zN_bl (zN_go hE) rfl hl.1 rfl (Nat.le_of_ble_eq_true rfl) dX5_brings_1 ⟨Nat.zero_le _, Nat.zero_le _⟩ ?_
  refine zv_ifeq_b (tgt := 11) hx hb dX5_brings_4 (by decide) (fun c_4 => ?_) (fun c_4 => ?_)
  · refine zv_iconst hx hb dX5_brings_11 ?_
    rw [← hQQ]
    exact zr_iret hx hb hr hlocks (congrArg zI (show (-1) = q_brings so le ri ti lo n st v i from by unfold q_brings; rw [if_neg (fun q => by first | exact c_4 q.1 | (have := q.2; omega))])) dX5_brings_12
  · refine lv_iload_n hx hb dX5_brings_7 rfl (lv_at hl 2 rfl) ?_
    refine zv_if_ge (tgt := 13) hx hb (by omega) dX5_brings_8 (by decide) (fun c_8 => ?_) (fun c_8 => ?_)
    · refine lv_aload_n hx hb dX5_brings_13 rfl (lv_at hl 0 rfl) ?_
      refine va_get (D := (dC, dI)) (ci := 4) (v := .ref h0) (C := RX5) (T := TX5) (N := 12) hx hb hts in_X5 hown hK hP 0 rfl rfl 1 (by decide) w_0 (fun _ h9 => h9) rfl dX5_brings_14 ?_
      refine va_getN (D := (dC, dI)) (ci := 0) (v := .int (zI n)) (C := RX0) (T := TX0) (N := 5) hx hb hts in_X0 hown hK hP 1 rfl rfl 0 (by decide) n_78 (fun _ h9 => h9) rfl dX5_brings_17 ?_
      refine zv_if_ne (tgt := 26) hx hb (by omega) dX5_brings_20 (by decide) (fun c_20 => ?_) (fun c_20 => ?_)
      · refine lv_iload_n hx hb dX5_brings_26 rfl (lv_at hl 2 rfl) ?_
        refine lv_iload_n hx hb dX5_brings_27 rfl (lv_at hl 1 rfl) ?_
        refine zv_callRS (As := [.int (zI v)]) (rest := [.int (zI i)]) ⟨hx, hb, hml, hown, hts⟩ (c_X5_figures l dC dI cI cB cZ v (by have := rowB_rng c_4; omega)) (va_cwS 1 hts gX5_brings_X5_figures rfl rfl rfl (by decide +kernel) ⟨by rw [← hRM]; first | decide | (dsimp only; omega), by rw [← hRM]; first | decide | (dsimp only; omega)⟩) hP hK [] rfl [0, 1, 2] rfl zN_bl (zN_go hE) rfl hl.1 rfl (Nat.le_of_ble_eq_true rfl) dX5_brings_28 ⟨Nat.zero_le _, Nat.zero_le _⟩ ?_
        have rl := rw_len v
        have r9 := rowB_rng c_4
        have l9 := ds_len9 r9
        refine zv_icmp_lt (tgt := 37) hx hb (by omega) (by omega) dX5_brings_31 (by decide) (fun c_31 => ?_) (fun c_31 => ?_)
        · refine lv_iload_n hx hb dX5_brings_37 rfl (lv_at hl 1 rfl) ?_
          refine zv_callRS (As := [.int (zI v)]) (rest := []) ⟨hx, hb, hml, hown, hts⟩ (c_X5_turned l dC dI cI cB cZ v (by have := rowB_rng c_4; omega)) (va_cwS 1 hts gX5_brings_X5_turned rfl rfl rfl (by decide +kernel) ⟨by rw [← hRM]; first | decide | (dsimp only; omega), by rw [← hRM]; first | decide | (dsimp only; omega)⟩) hP hK [] rfl [0, 1, 2] rfl zN_bl (zN_go hE) rfl hl.1 rfl (Nat.le_of_ble_eq_true rfl) dX5_brings_38 ⟨Nat.zero_le _, Nat.zero_le _⟩ ?_
          refine lv_istore_n (lv' := [(3, .int (zI (vl (rw v)))), (0, .ref w0), (1, .int (zI v)), (2, .int (zI i))]) hx hb dX5_brings_41 rfl hl (by decide) rfl (fun ls hl => ?_)
          refine lv_aload_n hx hb dX5_brings_42 rfl (lv_at hl 1 rfl) ?_
          refine va_get (D := (dC, dI)) (ci := 4) (v := .ref p0) (C := RX5) (T := TX5) (N := 12) hx hb hts in_X5 hown hK hP 0 rfl rfl 3 (by decide) w_1 (fun _ h9 => h9) rfl dX5_brings_43 ?_
          refine va_getN (D := (dC, dI)) (ci := 1) (v := .int (zI (pk st))) (C := RX1) (T := TX1) (N := 6) hx hb hts in_X1 hown hK hP 6 rfl rfl 0 (by decide) n_98 (fun _ h9 => h9) rfl dX5_brings_46 ?_
          refine zv_bipush hx hb dX5_brings_49 (by decide +kernel) ?_
          refine zv_callRS (As := [.int (zI (pk st)), .int (zI ((-9)))]) (rest := []) ⟨hx, hb, hml, hown, hts⟩ (c_X2_outcome l dC dI cI cB cZ st (-9) (by exact h7) (by omega)) (va_cwS 2 hts gX5_brings_X2_outcome rfl rfl rfl (by decide +kernel) ⟨by rw [← hRM]; first | decide | (dsimp only; omega), by rw [← hRM]; first | decide | (dsimp only; omega)⟩) hP hK [] rfl [0, 1, 2] rfl zN_bl (zN_go hE) rfl hl.1 rfl (Nat.le_of_ble_eq_true rfl) dX5_brings_51 ⟨Nat.zero_le _, Nat.zero_le _⟩ ?_
          refine lv_istore (lv' := [(4, .int (zI (oc (pk st) (-9)))), (3, .int (zI (vl (rw v)))), (0, .ref w0), (1, .int (zI v)), (2, .int (zI i))]) hx hb dX5_brings_54 hl (by decide) rfl (fun ls hl => ?_)
          refine zv_iconst hx hb dX5_brings_56 ?_
          refine lv_istore (lv' := [(5, .int (zI 0)), (4, .int (zI (oc (pk st) (-9)))), (3, .int (zI (vl (rw v)))), (0, .ref w0), (1, .int (zI v)), (2, .int (zI i))]) hx hb dX5_brings_57 hl (by decide) rfl (fun ls hl => ?_)
          exact cut59 _ 0 st (-9) (rw v) (Nat.lt_succ_self _) (by omega) (by omega) (by exact c_4) (by omega) (by rfl) (by rfl) (by exact Or.inl ⟨rfl, rfl⟩) (by exact hs) (by omega) _ (lv_sub hl [3, 5, 2, 1, 0] rfl)
        · refine zv_bipush hx hb dX5_brings_34 (by decide +kernel) ?_
          rw [← hQQ]
          exact zr_iret hx hb hr hlocks (congrArg zI (show (-5) = q_brings so le ri ti lo n st v i from by unfold q_brings; rw [if_pos ⟨c_4, by omega⟩, if_neg (by omega), if_pos (by omega)])) dX5_brings_36
      · refine zv_bipush hx hb dX5_brings_23 (by decide +kernel) ?_
        rw [← hQQ]
        exact zr_iret hx hb hr hlocks (congrArg zI (show (-2) = q_brings so le ri ti lo n st v i from by unfold q_brings; rw [if_pos ⟨c_4, by omega⟩, if_pos (by omega)])) dX5_brings_25
    · refine zv_iconst hx hb dX5_brings_11 ?_
      rw [← hQQ]
      exact zr_iret hx hb hr hlocks (congrArg zI (show (-1) = q_brings so le ri ti lo n st v i from by unfold q_brings; rw [if_neg (fun q => by first | exact c_4 q.1 | (have := q.2; omega))])) dX5_brings_12
