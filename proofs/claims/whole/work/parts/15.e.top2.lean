set_option maxHeartbeats 4000000 in
set_option maxRecDepth 100000 in
theorem c_X5_apart (l : Launch) (dC : Nat → ClassId) (dI : Nat → Nat → Nat) (cI cB cZ : ClassId) (w0 : Nat) (x0 : Nat) (h0 : Nat) (g0 : Nat) (p0 : Nat) (q0 : Nat) (r0 : Nat) (fk : Int) (sk : Int) (t0 : Nat) (b1 : Nat) (b2 : Nat) (tr : Int64) (h1 : Nat) (h2 : Nat) (h3 : Nat) (h4 : Nat) (n : Int) (so : Int → Int) (le : Int → Int) (ri : Int → Int) (ti : Int → Int) (p1 : Nat) (p2 : Nat) (st : Int → Int) (lo : Int) (li : Int) (kn : Int) (al : Int → Int) (ah : Int → Int) (v : Int) (o : Int) (hh : hOk n so le ri ti) (hs : sOk n so ti st) (hlo : -9 ≤ lo ∧ lo ≤ 8) (hv : -2147483648 ≤ v ∧ v ≤ 2147483647) (ho : -2147483648 ≤ o ∧ o ≤ 2147483647) : MetR l yX5_apart wsX5_apart ({ frames := 2, cells := 0, slots := 0, locals := 52 }) (dC, dI) vwCl (zT cI cB cZ) zN [(w0, .inr (4, [.ref x0, .ref h0, .ref g0, .ref p0, .ref q0, .ref r0, .int (zI fk), .int (zI sk), .ref t0, .ref b1, .ref b2, .long tr])), (h0, .inr (0, [.int (zI n), .ref h1, .ref h2, .ref h3, .ref h4])), (h1, .inl (cI, 9, .inl (zA so))), (h2, .inl (cI, 9, .inl (zA le))), (h3, .inl (cI, 9, .inl (zA ri))), (h4, .inl (cI, 9, .inl (zA ti))), (p0, .inr (1, [.int (zI (pk st)), .int (zI lo), .int (zI li), .int (zI kn), .ref p1, .ref p2])), (p1, .inl (cI, 9, .inl (zA al))), (p2, .inl (cI, 20, .inl (zA ah)))] [.ref w0, .int (zI v), .int (zI o)] (zI (q_apart so le ri ti lo n st v o)) := by
  refine MetR.intro (cc := cX5_apart) (maxL := 9) (ret := (some .int)) (by decide) rfl (Nat.le_of_ble_eq_true rfl) ?_
  intro p e s m args below meth c hx hb hr hlocks hml hts hown hP hK hE ls hl
  have hown : s.vm.findClass RX5 = some m.cls := hown
  have hl : lv_has ls 9 [(0, .ref w0), (1, .int (zI v)), (2, .int (zI o))] := hl
  generalize hRM : ({ frames := 2, cells := 0, slots := 0, locals := 52 } : Room) = RM
  generalize hQQ : MQ below (vp_Si (fun r => r = zI (q_apart so le ri ti lo n st v o))) args s 0 0 (fun _ => False) = QQ
  have in_X0 : ∀ w ∈ wsX00, w ∈ wsX5_apart := by decide +kernel
  have in_X1 : ∀ w ∈ wsX10, w ∈ wsX5_apart := by decide +kernel
  have in_X5 : ∀ w ∈ wsX50, w ∈ wsX5_apart := by decide +kernel
  have w_0 := hts (.fieldLink RX5 19 "WallMarbles" "built" "LWallMarbles$House;") (by decide +kernel)
  have w_1 := hts (.fieldLink RX5 29 "WallMarbles" "present" "LWallMarbles$Present;") (by decide +kernel)
  have n_116 := va_Nw.use (A := args) rfl (zN_4 hE)
  have n_78 := va_Nw.use (A := args) rfl (zN_2 hE)
  have n_98 := va_Nw.use (A := args) rfl (zN_3 hE)
  have hn := hh.1
  have h7 := sOk_s7 hh hs
  have cut78 : ∀ (nM : Nat) (j : Int) (su : Int → Int) (sv : Int → Int) (cc : Int) (cd : Int) (rs : List Int) (rt : List Int),  ((((rw v).length : Int) - j).toNat) < nM → (0 ≤ j ∧ j ≤ ((rw v).length : Int)) → (1 ≤ n) → (rowB v = true) → (rowB o = true) → ((rw v).length = (rw o).length) → (rs = (rw v).drop j.toNat) → (rt = (rw o).drop j.toNat) → (su = rnT so le ri ti lo n st (mz v) j.toNat) → (sv = rnT so le ri ti lo n st (mz o) j.toNat) → (sOk n so ti su) → (sOk n so ti sv) → ((cc = -9 ∨ (0 ≤ cc ∧ cc ≤ 8)) ∧ (cd = -9 ∨ (0 ≤ cd ∧ cd ≤ 8))) → (q_apart so le ri ti lo n st v o = apS so le ri ti lo n st v o ((rw v).length - j.toNat) j) → ∀ ls : Array Slot, lv_has ls 9 [(0, .ref w0), (3, .int (zI (((ds 10 v).length : Int)))), (4, .int (zI (vl rs))), (5, .int (zI (vl rt))), (6, .int (zI (oc (pk su) cc))), (7, .int (zI (oc (pk sv) cd))), (8, .int (zI j))] → W p l e RM s m args below meth c s.heap [] 0 0 QQ (F0 m 78 ls []) := by
    intro nM
    induction nM with
    | zero => intro j su sv cc cd rs rt hmu; exact absurd hmu (Nat.not_lt_zero _)
    | succ nM ih78 =>
      intro j su sv cc cd rs rt hmu hj hn1 hrow hrow2 hll hrs hrt hsu hsv hso hsp hc8 hres ls hl
      have l9 := ds_len9 (rowB_rng hrow)
      have rl := rw_len v
      refine lv_iload hx hb dX5_apart_78 (lv_at hl 6 rfl) ?_
      refine lv_iload_n hx hb dX5_apart_80 rfl (lv_at hl 1 rfl) ?_
      refine zv_icmp_ge (tgt := 176) hx hb (by omega) (by omega) dX5_apart_81 (by decide) (fun c_81 => ?_) (fun c_81 => ?_)
      · refine zv_bipush hx hb dX5_apart_176 (by decide +kernel) ?_
        rw [← hQQ]
        exact zr_iret hx hb hr hlocks (congrArg zI (show (-9) = q_apart so le ri ti lo n st v o from by rw [hres, show (rw v).length - j.toNat = 0 by omega]; rfl)) dX5_apart_178
      · obtain ⟨dd, tt, e1, e2, e3, e4, m10, q10, v9, w9⟩ := rw_at hrow (j := j) (by omega) (by omega)
        rw [← hrs] at e1
        rw [← e1] at m10 q10 v9 w9
        obtain ⟨g1, g2⟩ := goS_ok hh lo (dd - 1) 9 su (n - 1) (by omega) (by omega) hso
        obtain ⟨de, tu, f1, f2, f3, f4, m11, q11, v8, w8⟩ := rw_at hrow2 (j := j) (by omega) (by omega)
        rw [← hrt] at f1
        rw [← f1] at m11 q11 v8 w8
        obtain ⟨g3, g4⟩ := goS_ok hh lo (de - 1) 9 sv (n - 1) (by omega) (by omega) hsp
        refine lv_aload_n hx hb dX5_apart_84 rfl (lv_at hl 0 rfl) ?_
        refine va_get (D := (dC, dI)) (ci := 4) (v := .ref h0) (C := RX5) (T := TX5) (N := 12) hx hb hts in_X5 hown hK hP 0 rfl rfl 1 (by decide) w_0 (fun _ h9 => h9) rfl dX5_apart_85 ?_
        refine lv_iload hx hb dX5_apart_88 (lv_at hl 4 rfl) ?_
        refine zv_callRS (As := [.int (zI (oc (pk su) cc))]) (rest := [.ref h0]) ⟨hx, hb, hml, hown, hts⟩ (c_X2_standingOf l dC dI cI cB cZ su cc (by exact sOk_s7 hh hso) (by omega)) (va_cwS 1 hts gX5_apart_X2_standingOf rfl rfl rfl (by decide +kernel) ⟨by rw [← hRM]; first | decide | (dsimp only; omega), by rw [← hRM]; first | decide | (dsimp only; omega)⟩) hP hK [] rfl [0, 1, 2] rfl zN_bl (zN_go hE) rfl hl.1 rfl (Nat.le_of_ble_eq_true rfl) dX5_apart_90 ⟨Nat.zero_le _, Nat.zero_le _⟩ ?_
        refine lv_iload hx hb dX5_apart_93 (lv_at hl 2 rfl) ?_
        refine zv_bipush hx hb dX5_apart_95 (by decide +kernel) ?_
        refine zv_irem hx hb (by omega) dX5_apart_97 ?_
        rw [show ((vl rs) % 10) = dd from m10]
        refine zv_iconst hx hb dX5_apart_98 ?_
        refine zv_isub hx hb dX5_apart_99 ?_
        refine lv_aload_n hx hb dX5_apart_100 rfl (lv_at hl 0 rfl) ?_
        refine va_get (D := (dC, dI)) (ci := 4) (v := .ref p0) (C := RX5) (T := TX5) (N := 12) hx hb hts in_X5 hown hK hP 0 rfl rfl 3 (by decide) w_1 (fun _ h9 => h9) rfl dX5_apart_101 ?_
        refine va_getN (D := (dC, dI)) (ci := 1) (v := .int (zI lo)) (C := RX1) (T := TX1) (N := 6) hx hb hts in_X1 hown hK hP 6 rfl rfl 1 (by decide) n_116 (fun _ h9 => h9) rfl dX5_apart_104 ?_
        refine zv_callRV (As := [.int (zI (pk su)), .int (zI (dd - 1)), .int (zI lo)]) (rest := []) ⟨hx, hb, hml, hown, hts⟩ (c_X0_fall l dC dI cI cB cZ h0 h1 h2 h3 h4 n so le ri ti su (dd - 1) lo (by exact hh) (by omega) (by exact hso) (by omega) (by omega)) (cwV 3 hts gX5_apart_X0_fall rfl rfl rfl (by decide +kernel) ⟨by rw [← hRM]; first | decide | (dsimp only; omega), by rw [← hRM]; first | decide | (dsimp only; omega)⟩) hP hK [1, 2, 3, 4, 5] rfl [0, 1, 2] rfl zN_bl (zN_go hE) (q0 := 0) rfl rfl rfl rfl hl.1 rfl (Nat.le_of_ble_eq_true rfl) dX5_apart_107 ⟨Nat.zero_le _, Nat.zero_le _⟩ ?_
        refine lv_istore (lv' := [(6, .int (zI (oc (pk (goS so le ri ti lo (dd - 1) 9 su (n - 1)).1) (goS so le ri ti lo (dd - 1) 9 su (n - 1)).2))), (0, .ref w0), (3, .int (zI (((ds 10 v).length : Int)))), (4, .int (zI (vl rs))), (5, .int (zI (vl rt))), (7, .int (zI (oc (pk sv) cd))), (8, .int (zI j))]) hx hb dX5_apart_110 hl (by decide) rfl (fun ls hl => ?_)
        refine lv_aload_n hx hb dX5_apart_112 rfl (lv_at hl 1 rfl) ?_
        refine va_get (D := (dC, dI)) (ci := 4) (v := .ref h0) (C := RX5) (T := TX5) (N := 12) hx hb hts in_X5 hown hK hP 0 rfl rfl 1 (by decide) w_0 (fun _ h9 => h9) rfl dX5_apart_113 ?_
        refine lv_iload hx hb dX5_apart_116 (lv_at hl 5 rfl) ?_
        refine zv_callRS (As := [.int (zI (oc (pk sv) cd))]) (rest := [.ref h0]) ⟨hx, hb, hml, hown, hts⟩ (c_X2_standingOf l dC dI cI cB cZ sv cd (by exact sOk_s7 hh hsp) (by omega)) (va_cwS 1 hts gX5_apart_X2_standingOf rfl rfl rfl (by decide +kernel) ⟨by rw [← hRM]; first | decide | (dsimp only; omega), by rw [← hRM]; first | decide | (dsimp only; omega)⟩) hP hK [] rfl [0, 1, 2] rfl zN_bl (zN_go hE) rfl hl.1 rfl (Nat.le_of_ble_eq_true rfl) dX5_apart_118 ⟨Nat.zero_le _, Nat.zero_le _⟩ ?_
        refine lv_iload hx hb dX5_apart_121 (lv_at hl 4 rfl) ?_
        refine zv_bipush hx hb dX5_apart_123 (by decide +kernel) ?_
        refine zv_irem hx hb (by omega) dX5_apart_125 ?_
        rw [show ((vl rt) % 10) = de from m11]
        refine zv_iconst hx hb dX5_apart_126 ?_
        refine zv_isub hx hb dX5_apart_127 ?_
        refine lv_aload_n hx hb dX5_apart_128 rfl (lv_at hl 1 rfl) ?_
        refine va_get (D := (dC, dI)) (ci := 4) (v := .ref p0) (C := RX5) (T := TX5) (N := 12) hx hb hts in_X5 hown hK hP 0 rfl rfl 3 (by decide) w_1 (fun _ h9 => h9) rfl dX5_apart_129 ?_
        refine va_getN (D := (dC, dI)) (ci := 1) (v := .int (zI lo)) (C := RX1) (T := TX1) (N := 6) hx hb hts in_X1 hown hK hP 6 rfl rfl 1 (by decide) n_116 (fun _ h9 => h9) rfl dX5_apart_132 ?_
        refine zv_callRV (As := [.int (zI (pk sv)), .int (zI (de - 1)), .int (zI lo)]) (rest := []) ⟨hx, hb, hml, hown, hts⟩ (c_X0_fall l dC dI cI cB cZ h0 h1 h2 h3 h4 n so le ri ti sv (de - 1) lo (by exact hh) (by omega) (by exact hsp) (by omega) (by omega)) (cwV 3 hts gX5_apart_X0_fall rfl rfl rfl (by decide +kernel) ⟨by rw [← hRM]; first | decide | (dsimp only; omega), by rw [← hRM]; first | decide | (dsimp only; omega)⟩) hP hK [1, 2, 3, 4, 5] rfl [0, 1, 2] rfl zN_bl (zN_go hE) (q0 := 0) rfl rfl rfl rfl hl.1 rfl (Nat.le_of_ble_eq_true rfl) dX5_apart_135 ⟨Nat.zero_le _, Nat.zero_le _⟩ ?_
        refine lv_istore (lv' := [(7, .int (zI (oc (pk (goS so le ri ti lo (de - 1) 9 sv (n - 1)).1) (goS so le ri ti lo (de - 1) 9 sv (n - 1)).2))), (6, .int (zI (oc (pk (goS so le ri ti lo (dd - 1) 9 su (n - 1)).1) (goS so le ri ti lo (dd - 1) 9 su (n - 1)).2))), (0, .ref w0), (3, .int (zI (((ds 10 v).length : Int)))), (4, .int (zI (vl rs))), (5, .int (zI (vl rt))), (8, .int (zI j))]) hx hb dX5_apart_138 hl (by decide) rfl (fun ls hl => ?_)
        refine lv_iload hx hb dX5_apart_140 (lv_at hl 1 rfl) ?_
        refine zv_callRS (As := [.int (zI (oc (pk (goS so le ri ti lo (dd - 1) 9 su (n - 1)).1) (goS so le ri ti lo (dd - 1) 9 su (n - 1)).2))]) (rest := []) ⟨hx, hb, hml, hown, hts⟩ (c_X2_comesOf l dC dI cI cB cZ ((goS so le ri ti lo (dd - 1) 9 su (n - 1)).1) ((goS so le ri ti lo (dd - 1) 9 su (n - 1)).2) (by exact sOk_s7 hh g1) (by omega)) (va_cwS 1 hts gX5_apart_X2_comesOf rfl rfl rfl (by decide +kernel) ⟨by rw [← hRM]; first | decide | (dsimp only; omega), by rw [← hRM]; first | decide | (dsimp only; omega)⟩) hP hK [] rfl [0, 1, 2] rfl zN_bl (zN_go hE) rfl hl.1 rfl (Nat.le_of_ble_eq_true rfl) dX5_apart_142 ⟨Nat.zero_le _, Nat.zero_le _⟩ ?_
        refine lv_iload hx hb dX5_apart_145 (lv_at hl 0 rfl) ?_
        refine zv_callRS (As := [.int (zI (oc (pk (goS so le ri ti lo (de - 1) 9 sv (n - 1)).1) (goS so le ri ti lo (de - 1) 9 sv (n - 1)).2))]) (rest := [.int (zI (((goS so le ri ti lo (dd - 1) 9 su (n - 1)).2)))]) ⟨hx, hb, hml, hown, hts⟩ (c_X2_comesOf l dC dI cI cB cZ ((goS so le ri ti lo (de - 1) 9 sv (n - 1)).1) ((goS so le ri ti lo (de - 1) 9 sv (n - 1)).2) (by exact sOk_s7 hh g3) (by omega)) (va_cwS 1 hts gX5_apart_X2_comesOf rfl rfl rfl (by decide +kernel) ⟨by rw [← hRM]; first | decide | (dsimp only; omega), by rw [← hRM]; first | decide | (dsimp only; omega)⟩) hP hK [] rfl [0, 1, 2] rfl zN_bl (zN_go hE) rfl hl.1 rfl (Nat.le_of_ble_eq_true rfl) dX5_apart_147 ⟨Nat.zero_le _, Nat.zero_le _⟩ ?_
        have k1 : (goS so le ri ti lo (dd - 1) 9 su (n - 1)).2 = rnC so le ri ti lo n st (mz v) j.toNat := by unfold rnC; rw [Int.toNat_of_nonneg (by omega), e3, ← hsu]
        have k2 : (goS so le ri ti lo (de - 1) 9 sv (n - 1)).2 = rnC so le ri ti lo n st (mz o) j.toNat := by unfold rnC; rw [Int.toNat_of_nonneg (by omega), f3, ← hsv]
        refine zv_icmp_eq (tgt := 156) hx hb (by omega) (by omega) dX5_apart_150 (by decide) (fun c_150 => ?_) (fun c_150 => ?_)
        · refine lv_iload hx hb dX5_apart_156 (lv_at hl 4 rfl) ?_
          refine zv_bipush hx hb dX5_apart_158 (by decide +kernel) ?_
          refine zv_idiv hx hb (by omega) dX5_apart_160 ?_
          rw [show ((vl rs) / 10) = vl tt from q10]
          refine lv_istore (lv' := [(4, .int (zI (vl tt))), (7, .int (zI (oc (pk (goS so le ri ti lo (de - 1) 9 sv (n - 1)).1) (goS so le ri ti lo (de - 1) 9 sv (n - 1)).2))), (6, .int (zI (oc (pk (goS so le ri ti lo (dd - 1) 9 su (n - 1)).1) (goS so le ri ti lo (dd - 1) 9 su (n - 1)).2))), (0, .ref w0), (3, .int (zI (((ds 10 v).length : Int)))), (5, .int (zI (vl rt))), (8, .int (zI j))]) hx hb dX5_apart_161 hl (by decide) rfl (fun ls hl => ?_)
          refine lv_iload hx hb dX5_apart_163 (lv_at hl 5 rfl) ?_
          refine zv_bipush hx hb dX5_apart_165 (by decide +kernel) ?_
          refine zv_idiv hx hb (by omega) dX5_apart_167 ?_
          rw [show ((vl rt) / 10) = vl tu from q11]
          refine lv_istore (lv' := [(5, .int (zI (vl tu))), (4, .int (zI (vl tt))), (7, .int (zI (oc (pk (goS so le ri ti lo (de - 1) 9 sv (n - 1)).1) (goS so le ri ti lo (de - 1) 9 sv (n - 1)).2))), (6, .int (zI (oc (pk (goS so le ri ti lo (dd - 1) 9 su (n - 1)).1) (goS so le ri ti lo (dd - 1) 9 su (n - 1)).2))), (0, .ref w0), (3, .int (zI (((ds 10 v).length : Int)))), (8, .int (zI j))]) hx hb dX5_apart_168 hl (by decide) rfl (fun ls hl => ?_)
          refine zv_iinc (k := 6) (a := j) (n := 1) (lv' := [(8, .int (zI (j + 1))), (5, .int (zI (vl tu))), (4, .int (zI (vl tt))), (7, .int (zI (oc (pk (goS so le ri ti lo (de - 1) 9 sv (n - 1)).1) (goS so le ri ti lo (de - 1) 9 sv (n - 1)).2))), (6, .int (zI (oc (pk (goS so le ri ti lo (dd - 1) 9 su (n - 1)).1) (goS so le ri ti lo (dd - 1) 9 su (n - 1)).2))), (0, .ref w0), (3, .int (zI (((ds 10 v).length : Int))))]) hx hb dX5_apart_170 hl rfl (by decide) rfl (fun ls hl => ?_)
          refine lv_goto (tgt := 78) hx hb dX5_apart_173 (by decide) ?_
          exact ih78 (j + 1) ((goS so le ri ti lo (dd - 1) 9 su (n - 1)).1) ((goS so le ri ti lo (de - 1) 9 sv (n - 1)).1) ((goS so le ri ti lo (dd - 1) 9 su (n - 1)).2) ((goS so le ri ti lo (de - 1) 9 sv (n - 1)).2) tt tu (by omega) (by omega) (by omega) (by exact hrow) (by exact hrow2) (by exact hll) (by exact e2.symm) (by exact f2.symm) (by rw [rnT_s (by omega), e3, ← hsu]) (by rw [rnT_s (by omega), f3, ← hsv]) (by exact g1) (by exact g3) (by omega) (by rw [hres, apS_s (by omega) (by omega), if_pos (by rw [← k1, ← k2]; exact c_150), show (j + 1).toNat = j.toNat + 1 by omega, Nat.sub_sub]) _ (lv_sub hl [5, 6, 2, 1, 4, 3, 0] rfl)
        · refine lv_iload hx hb dX5_apart_153 (lv_at hl 6 rfl) ?_
          rw [← hQQ]
          exact zr_iret hx hb hr hlocks (congrArg zI (show j = q_apart so le ri ti lo n st v o from by rw [hres, apS_s (by omega) (by omega), if_neg (by rw [← k1, ← k2]; exact c_150)])) dX5_apart_155
  refine lv_iload_n hx hb dX5_apart_0 rfl (lv_at hl 1 rfl) ?_
  refine zv_callRS (As := [.int (zI v)]) (rest := []) ⟨hx, hb, hml, hown, hts⟩ (c_X5_isRow l dC dI cI cB cZ v (by omega)) (va_cwS 1 hts gX5_apart_X5_isRow rfl rfl rfl (by decide +kernel) ⟨by rw [← hRM]; first | decide | (dsimp only; omega), by rw [← hRM]; first | decide | (dsimp only; omega)⟩) hP hK [] rfl [0, 1, 2] rfl zN_bl (zN_go hE) rfl hl.1 rfl (Nat.le_of_ble_eq_true rfl) dX5_apart_1 ⟨Nat.zero_le _, Nat.zero_le _⟩ ?_
  refine zv_ifeq_b (tgt := 25) hx hb dX5_apart_4 (by decide) (fun c_4 => ?_) (fun c_4 => ?_)
  · have rl := rw_len v
    have rk := rw_len o
    refine zv_iconst hx hb dX5_apart_25 ?_
    rw [← hQQ]
    exact zr_iret hx hb hr hlocks (congrArg zI (show (-1) = q_apart so le ri ti lo n st v o from by unfold q_apart; rw [if_neg (fun q => by first | exact c_4 q.1 | exact c_11 q.2.1 | (have := q.2.2; omega))])) dX5_apart_26
  · refine lv_iload_n hx hb dX5_apart_7 rfl (lv_at hl 2 rfl) ?_
    refine zv_callRS (As := [.int (zI o)]) (rest := []) ⟨hx, hb, hml, hown, hts⟩ (c_X5_isRow l dC dI cI cB cZ o (by omega)) (va_cwS 1 hts gX5_apart_X5_isRow rfl rfl rfl (by decide +kernel) ⟨by rw [← hRM]; first | decide | (dsimp only; omega), by rw [← hRM]; first | decide | (dsimp only; omega)⟩) hP hK [] rfl [0, 1, 2] rfl zN_bl (zN_go hE) rfl hl.1 rfl (Nat.le_of_ble_eq_true rfl) dX5_apart_8 ⟨Nat.zero_le _, Nat.zero_le _⟩ ?_
    refine zv_ifeq_b (tgt := 25) hx hb dX5_apart_11 (by decide) (fun c_11 => ?_) (fun c_11 => ?_)
    · have rl := rw_len v
      have rk := rw_len o
      refine zv_iconst hx hb dX5_apart_25 ?_
      rw [← hQQ]
      exact zr_iret hx hb hr hlocks (congrArg zI (show (-1) = q_apart so le ri ti lo n st v o from by unfold q_apart; rw [if_neg (fun q => by first | exact c_4 q.1 | exact c_11 q.2.1 | (have := q.2.2; omega))])) dX5_apart_26
    · refine lv_iload_n hx hb dX5_apart_14 rfl (lv_at hl 1 rfl) ?_
      refine zv_callRS (As := [.int (zI v)]) (rest := []) ⟨hx, hb, hml, hown, hts⟩ (c_X5_figures l dC dI cI cB cZ v (by have := rowB_rng c_4; omega)) (va_cwS 1 hts gX5_apart_X5_figures rfl rfl rfl (by decide +kernel) ⟨by rw [← hRM]; first | decide | (dsimp only; omega), by rw [← hRM]; first | decide | (dsimp only; omega)⟩) hP hK [] rfl [0, 1, 2] rfl zN_bl (zN_go hE) rfl hl.1 rfl (Nat.le_of_ble_eq_true rfl) dX5_apart_15 ⟨Nat.zero_le _, Nat.zero_le _⟩ ?_
      refine lv_iload_n hx hb dX5_apart_18 rfl (lv_at hl 2 rfl) ?_
      refine zv_callRS (As := [.int (zI o)]) (rest := [.int (zI (((ds 10 v).length : Int)))]) ⟨hx, hb, hml, hown, hts⟩ (c_X5_figures l dC dI cI cB cZ o (by have := rowB_rng c_11; omega)) (va_cwS 1 hts gX5_apart_X5_figures rfl rfl rfl (by decide +kernel) ⟨by rw [← hRM]; first | decide | (dsimp only; omega), by rw [← hRM]; first | decide | (dsimp only; omega)⟩) hP hK [] rfl [0, 1, 2] rfl zN_bl (zN_go hE) rfl hl.1 rfl (Nat.le_of_ble_eq_true rfl) dX5_apart_19 ⟨Nat.zero_le _, Nat.zero_le _⟩ ?_
      have l9 := ds_len9 (rowB_rng c_4)
      have k9 := ds_len9 (rowB_rng c_11)
      refine zv_icmp_eq (tgt := 27) hx hb (by omega) (by omega) dX5_apart_22 (by decide) (fun c_22 => ?_) (fun c_22 => ?_)
      · have rl := rw_len v
        have rk := rw_len o
        refine lv_aload_n hx hb dX5_apart_27 rfl (lv_at hl 0 rfl) ?_
        refine va_get (D := (dC, dI)) (ci := 4) (v := .ref h0) (C := RX5) (T := TX5) (N := 12) hx hb hts in_X5 hown hK hP 0 rfl rfl 1 (by decide) w_0 (fun _ h9 => h9) rfl dX5_apart_28 ?_
        refine va_getN (D := (dC, dI)) (ci := 0) (v := .int (zI n)) (C := RX0) (T := TX0) (N := 5) hx hb hts in_X0 hown hK hP 1 rfl rfl 0 (by decide) n_78 (fun _ h9 => h9) rfl dX5_apart_31 ?_
        refine zv_if_ne (tgt := 40) hx hb (by omega) dX5_apart_34 (by decide) (fun c_34 => ?_) (fun c_34 => ?_)
        · refine lv_iload_n hx hb dX5_apart_40 rfl (lv_at hl 1 rfl) ?_
          refine zv_callRS (As := [.int (zI v)]) (rest := []) ⟨hx, hb, hml, hown, hts⟩ (c_X5_figures l dC dI cI cB cZ v (by have := rowB_rng c_4; omega)) (va_cwS 1 hts gX5_apart_X5_figures rfl rfl rfl (by decide +kernel) ⟨by rw [← hRM]; first | decide | (dsimp only; omega), by rw [← hRM]; first | decide | (dsimp only; omega)⟩) hP hK [] rfl [0, 1, 2] rfl zN_bl (zN_go hE) rfl hl.1 rfl (Nat.le_of_ble_eq_true rfl) dX5_apart_41 ⟨Nat.zero_le _, Nat.zero_le _⟩ ?_
          refine lv_istore_n (lv' := [(3, .int (zI (((ds 10 v).length : Int)))), (0, .ref w0), (1, .int (zI v)), (2, .int (zI o))]) hx hb dX5_apart_44 rfl hl (by decide) rfl (fun ls hl => ?_)
          refine lv_iload_n hx hb dX5_apart_45 rfl (lv_at hl 2 rfl) ?_
          refine zv_callRS (As := [.int (zI v)]) (rest := []) ⟨hx, hb, hml, hown, hts⟩ (c_X5_turned l dC dI cI cB cZ v (by have := rowB_rng c_4; omega)) (va_cwS 1 hts gX5_apart_X5_turned rfl rfl rfl (by decide +kernel) ⟨by rw [← hRM]; first | decide | (dsimp only; omega), by rw [← hRM]; first | decide | (dsimp only; omega)⟩) hP hK [] rfl [0, 1, 2] rfl zN_bl (zN_go hE) rfl hl.1 rfl (Nat.le_of_ble_eq_true rfl) dX5_apart_46 ⟨Nat.zero_le _, Nat.zero_le _⟩ ?_
          refine lv_istore (lv' := [(4, .int (zI (vl (rw v)))), (3, .int (zI (((ds 10 v).length : Int)))), (0, .ref w0), (1, .int (zI v)), (2, .int (zI o))]) hx hb dX5_apart_49 hl (by decide) rfl (fun ls hl => ?_)
          refine lv_iload_n hx hb dX5_apart_51 rfl (lv_at hl 4 rfl) ?_
          refine zv_callRS (As := [.int (zI o)]) (rest := []) ⟨hx, hb, hml, hown, hts⟩ (c_X5_turned l dC dI cI cB cZ o (by have := rowB_rng c_11; omega)) (va_cwS 1 hts gX5_apart_X5_turned rfl rfl rfl (by decide +kernel) ⟨by rw [← hRM]; first | decide | (dsimp only; omega), by rw [← hRM]; first | decide | (dsimp only; omega)⟩) hP hK [] rfl [0, 1, 2] rfl zN_bl (zN_go hE) rfl hl.1 rfl (Nat.le_of_ble_eq_true rfl) dX5_apart_52 ⟨Nat.zero_le _, Nat.zero_le _⟩ ?_
          refine lv_istore (lv' := [(5, .int (zI (vl (rw o)))), (4, .int (zI (vl (rw v)))), (3, .int (zI (((ds 10 v).length : Int)))), (0, .ref w0), (1, .int (zI v)), (2, .int (zI o))]) hx hb dX5_apart_55 hl (by decide) rfl (fun ls hl => ?_)
          refine lv_aload_n hx hb dX5_apart_57 rfl (lv_at hl 3 rfl) ?_
          refine va_get (D := (dC, dI)) (ci := 4) (v := .ref p0) (C := RX5) (T := TX5) (N := 12) hx hb hts in_X5 hown hK hP 0 rfl rfl 3 (by decide) w_1 (fun _ h9 => h9) rfl dX5_apart_58 ?_
          refine va_getN (D := (dC, dI)) (ci := 1) (v := .int (zI (pk st))) (C := RX1) (T := TX1) (N := 6) hx hb hts in_X1 hown hK hP 6 rfl rfl 0 (by decide) n_98 (fun _ h9 => h9) rfl dX5_apart_61 ?_
          refine zv_bipush hx hb dX5_apart_64 (by decide +kernel) ?_
          refine zv_callRS (As := [.int (zI (pk st)), .int (zI ((-9)))]) (rest := []) ⟨hx, hb, hml, hown, hts⟩ (c_X2_outcome l dC dI cI cB cZ st (-9) (by exact h7) (by omega)) (va_cwS 2 hts gX5_apart_X2_outcome rfl rfl rfl (by decide +kernel) ⟨by rw [← hRM]; first | decide | (dsimp only; omega), by rw [← hRM]; first | decide | (dsimp only; omega)⟩) hP hK [] rfl [0, 1, 2] rfl zN_bl (zN_go hE) rfl hl.1 rfl (Nat.le_of_ble_eq_true rfl) dX5_apart_66 ⟨Nat.zero_le _, Nat.zero_le _⟩ ?_
          refine lv_istore (lv' := [(6, .int (zI (oc (pk st) (-9)))), (5, .int (zI (vl (rw o)))), (4, .int (zI (vl (rw v)))), (3, .int (zI (((ds 10 v).length : Int)))), (0, .ref w0), (1, .int (zI v)), (2, .int (zI o))]) hx hb dX5_apart_69 hl (by decide) rfl (fun ls hl => ?_)
          refine lv_iload hx hb dX5_apart_71 (lv_at hl 0 rfl) ?_
          refine lv_istore (lv' := [(7, .int (zI (oc (pk st) (-9)))), (6, .int (zI (oc (pk st) (-9)))), (5, .int (zI (vl (rw o)))), (4, .int (zI (vl (rw v)))), (3, .int (zI (((ds 10 v).length : Int)))), (0, .ref w0), (1, .int (zI v)), (2, .int (zI o))]) hx hb dX5_apart_73 hl (by decide) rfl (fun ls hl => ?_)
          refine zv_iconst hx hb dX5_apart_75 ?_
          refine lv_istore (lv' := [(8, .int (zI 0)), (7, .int (zI (oc (pk st) (-9)))), (6, .int (zI (oc (pk st) (-9)))), (5, .int (zI (vl (rw o)))), (4, .int (zI (vl (rw v)))), (3, .int (zI (((ds 10 v).length : Int)))), (0, .ref w0), (1, .int (zI v)), (2, .int (zI o))]) hx hb dX5_apart_76 hl (by decide) rfl (fun ls hl => ?_)
          exact cut78 _ 0 st st (-9) (-9) (rw v) (rw o) (Nat.lt_succ_self _) (by omega) (by omega) (by exact c_4) (by exact c_11) (by omega) (by rfl) (by rfl) (by rfl) (by rfl) (by exact hs) (by exact hs) (by omega) (by unfold q_apart; rw [if_pos ⟨c_4, c_11, by omega⟩, if_neg (by omega), show (rw v).length - (0 : Int).toNat = (rw v).length by omega]) _ (lv_sub hl [6, 5, 4, 3, 2, 1, 0] rfl)
        · refine zv_bipush hx hb dX5_apart_37 (by decide +kernel) ?_
          rw [← hQQ]
          exact zr_iret hx hb hr hlocks (congrArg zI (show (-2) = q_apart so le ri ti lo n st v o from by unfold q_apart; rw [if_pos ⟨c_4, c_11, by omega⟩, if_pos (by omega)])) dX5_apart_39
      · have rl := rw_len v
        have rk := rw_len o
        refine zv_iconst hx hb dX5_apart_25 ?_
        rw [← hQQ]
        exact zr_iret hx hb hr hlocks (congrArg zI (show (-1) = q_apart so le ri ti lo n st v o from by unfold q_apart; rw [if_neg (fun q => by first | exact c_4 q.1 | exact c_11 q.2.1 | (have := q.2.2; omega))])) dX5_apart_26
