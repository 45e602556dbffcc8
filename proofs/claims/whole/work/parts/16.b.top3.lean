set_option maxHeartbeats 4000000 in
set_option maxRecDepth 100000 in
theorem c_X5_lodges (l : Launch) (dC : Nat → ClassId) (dI : Nat → Nat → Nat) (cI cB cZ : ClassId) (w0 : Nat) (x0 : Nat) (h0 : Nat) (g0 : Nat) (p0 : Nat) (q0 : Nat) (r0 : Nat) (fk : Int) (sk : Int) (t0 : Nat) (b1 : Nat) (b2 : Nat) (tr : Int64) (h1 : Nat) (h2 : Nat) (h3 : Nat) (h4 : Nat) (n : Int) (so : Int → Int) (le : Int → Int) (ri : Int → Int) (ti : Int → Int) (t1 : Nat) (t2 : Nat) (tn : Int) (ts : Int → Int) (tc : Int → Int) (hh : hOk n so le ri ti) (htn : 0 ≤ tn ∧ tn ≤ 9) (htz : ∀ j : Int, 0 ≤ j → j < tn → ts j = 0 ∨ ts j = 1) (htc : ∀ j : Int, 0 ≤ j → j < tn → -9 ≤ tc j ∧ tc j ≤ 8) : MetR l yX5_lodges wsX5_lodges ({ frames := 3, cells := 0, slots := 0, locals := 77 }) (dC, dI) vwCl (zT cI cB cZ) zN [(w0, .inr (4, [.ref x0, .ref h0, .ref g0, .ref p0, .ref q0, .ref r0, .int (zI fk), .int (zI sk), .ref t0, .ref b1, .ref b2, .long tr])), (h0, .inr (0, [.int (zI n), .ref h1, .ref h2, .ref h3, .ref h4])), (h1, .inl (cI, 9, .inl (zA so))), (h2, .inl (cI, 9, .inl (zA le))), (h3, .inl (cI, 9, .inl (zA ri))), (h4, .inl (cI, 9, .inl (zA ti))), (t0, .inr (3, [.int (zI tn), .ref t1, .ref t2])), (t1, .inl (cI, 9, .inl (zA ts))), (t2, .inl (cI, 9, .inl (zA tc)))] [.ref w0] (zI (q_lodges so le ri ti n ts tc tn)) := by
  refine MetR.intro (cc := cX5_lodges) (maxL := 3) (ret := (some .int)) (by decide) rfl (Nat.le_of_ble_eq_true rfl) ?_
  intro p e s m args below meth c hx hb hr hlocks hml hts hown hP hK hE ls hl
  have hown : s.vm.findClass RX5 = some m.cls := hown
  have hl : lv_has ls 3 [(0, .ref w0)] := hl
  generalize hRM : ({ frames := 3, cells := 0, slots := 0, locals := 77 } : Room) = RM
  generalize hQQ : MQ below (vp_Si (fun r => r = zI (q_lodges so le ri ti n ts tc tn))) args s 0 0 (fun _ => False) = QQ
  have in_X0 : ∀ w ∈ wsX00, w ∈ wsX5_lodges := by decide +kernel
  have in_X5 : ∀ w ∈ wsX50, w ∈ wsX5_lodges := by decide +kernel
  have w_0 := hts (.fieldLink RX5 42 "WallMarbles" "trials" "LWallMarbles$Trials;") (by decide +kernel)
  have w_1 := hts (.fieldLink RX5 19 "WallMarbles" "built" "LWallMarbles$House;") (by decide +kernel)
  have n_78 := va_Nw.use (A := args) rfl (zN_2 hE)
  have hn := hh.1
  have cut17 : ∀ (nM : Nat) (bt : Int) (b : Int),  ((10 - b).toNat) < nM → (0 ≤ b ∧ b ≤ 10) → (1 ≤ n) → (bt = lgS (okB so le ri ti n ts tc tn) b.toNat) → ∀ ls : Array Slot, lv_has ls 3 [(0, .ref w0), (1, .int (zI bt)), (2, .int (zI b))] → W p l e RM s m args below meth c s.heap [] 0 0 QQ (F0 m 17 ls []) := by
    intro nM
    induction nM with
    | zero => intro bt b hmu; exact absurd hmu (Nat.not_lt_zero _)
    | succ nM ih17 =>
      intro bt b hmu hb0 hn1 hbt ls hl
      refine lv_iload_n hx hb dX5_lodges_17 rfl (lv_at hl 2 rfl) ?_
      refine zv_bipush hx hb dX5_lodges_18 (by decide +kernel) ?_
      refine zv_icmp_gt (tgt := 62) hx hb (by omega) (by omega) dX5_lodges_20 (by decide) (fun c_20 => ?_) (fun c_20 => ?_)
      · refine lv_iload_n hx hb dX5_lodges_62 rfl (lv_at hl 1 rfl) ?_
        rw [← hQQ]
        exact zr_iret hx hb hr hlocks (congrArg zI (show bt = q_lodges so le ri ti n ts tc tn from by unfold q_lodges; rw [if_neg (by omega), hbt, show b = 10 by omega]; rfl)) dX5_lodges_63
      · refine lv_aload_n hx hb dX5_lodges_23 rfl (lv_at hl 0 rfl) ?_
        refine lv_iload_n hx hb dX5_lodges_24 rfl (lv_at hl 2 rfl) ?_
        refine zv_callRV (As := [.int (zI b)]) (rest := []) ⟨hx, hb, hml, hown, hts⟩ (c_X5_canBeLodged l dC dI cI cB cZ w0 x0 h0 g0 p0 q0 r0 fk sk t0 b1 b2 tr h1 h2 h3 h4 n so le ri ti b (by omega) (by omega)) (cwV 1 hts gX5_lodges_X5_canBeLodged rfl rfl rfl (by decide +kernel) ⟨by rw [← hRM]; first | decide | (dsimp only; omega), by rw [← hRM]; first | decide | (dsimp only; omega)⟩) hP hK [0, 1, 2, 3, 4, 5] rfl [0, 1, 2] rfl zN_bl (zN_go hE) (q0 := 0) rfl rfl rfl rfl hl.1 rfl (Nat.le_of_ble_eq_true rfl) dX5_lodges_25 ⟨Nat.zero_le _, Nat.zero_le _⟩ ?_
        refine zv_ifeq_b (tgt := 56) hx hb dX5_lodges_28 (by decide) (fun c_28 => ?_) (fun c_28 => ?_)
        · refine zv_iinc (k := 2) (a := b) (n := 1) (lv' := [(2, .int (zI (b + 1))), (0, .ref w0), (1, .int (zI bt))]) hx hb dX5_lodges_56 hl rfl (by decide) rfl (fun ls hl => ?_)
          refine lv_goto (tgt := 17) hx hb dX5_lodges_59 (by decide) ?_
          exact ih17 bt (b + 1) (by omega) (by omega) (by omega) (by rw [lgS_s (by omega), ← hbt]; first | (rw [if_pos (okB_t c_28 (Decidable.byContradiction (fun q => by rw [if_neg q] at c_47; exact c_47 rfl)))]) | (rw [if_neg (okB_f (by intro q; rw [if_pos q] at c_47; omega))]; omega) | (rw [if_neg (okB_g c_28)]; omega)) _ (lv_sub hl [1, 2, 0] rfl)
        · have lb : -9 ≤ lodO b ∧ lodO b ≤ 8 := by unfold lodO; split <;> omega
          have rb := pk_rng (sOk_s7 hh (trT_ok hh hn1 (lodO b) ts tn.toNat))
          refine lv_aload_n hx hb dX5_lodges_31 rfl (lv_at hl 0 rfl) ?_
          refine va_get (D := (dC, dI)) (ci := 4) (v := .ref t0) (C := RX5) (T := TX5) (N := 12) hx hb hts in_X5 hown hK hP 0 rfl rfl 8 (by decide) w_0 (fun _ h9 => h9) rfl dX5_lodges_32 ?_
          refine lv_aload_n hx hb dX5_lodges_35 rfl (lv_at hl 0 rfl) ?_
          refine va_get (D := (dC, dI)) (ci := 4) (v := .ref h0) (C := RX5) (T := TX5) (N := 12) hx hb hts in_X5 hown hK hP 0 rfl rfl 1 (by decide) w_1 (fun _ h9 => h9) rfl dX5_lodges_36 ?_
          refine lv_iload_n hx hb dX5_lodges_39 rfl (lv_at hl 2 rfl) ?_
          refine zv_callRS (As := [.int (zI b)]) (rest := [.ref h0, .ref t0]) ⟨hx, hb, hml, hown, hts⟩ (c_X5_lodgedOf l dC dI cI cB cZ b (by omega)) (va_cwS 1 hts gX5_lodges_X5_lodgedOf rfl rfl rfl (by decide +kernel) ⟨by rw [← hRM]; first | decide | (dsimp only; omega), by rw [← hRM]; first | decide | (dsimp only; omega)⟩) hP hK [] rfl [0, 1, 2] rfl zN_bl (zN_go hE) rfl hl.1 rfl (Nat.le_of_ble_eq_true rfl) dX5_lodges_40 ⟨Nat.zero_le _, Nat.zero_le _⟩ ?_
          refine zv_callRV (As := [.ref h0, .int (zI (lodO b))]) (rest := []) ⟨hx, hb, hml, hown, hts⟩ (c_X4_standingBehind l dC dI cI cB cZ t0 t1 t2 tn ts tc h0 h1 h2 h3 h4 n so le ri ti (lodO b) (by exact hh) (by omega) (by omega) (by exact htz) (by exact htc) (by omega)) (cwV 2 hts gX5_lodges_X4_standingBehind rfl rfl rfl (by decide +kernel) ⟨by rw [← hRM]; first | decide | (dsimp only; omega), by rw [← hRM]; first | decide | (dsimp only; omega)⟩) hP hK [6, 7, 8, 1, 2, 3, 4, 5] rfl [0, 1, 2] rfl zN_bl (zN_go hE) (q0 := 0) rfl rfl rfl rfl hl.1 rfl (Nat.le_of_ble_eq_true rfl) dX5_lodges_43 ⟨Nat.zero_le _, Nat.zero_le _⟩ ?_
          have rz : -1 ≤ (if trK so le ri ti (lodO b) n ts tc tn.toNat = true then pk (trT so le ri ti (lodO b) n ts tn.toNat) else -1) ∧ (if trK so le ri ti (lodO b) n ts tc tn.toNat = true then pk (trT so le ri ti (lodO b) n ts tn.toNat) else -1) ≤ 134217727 := by split <;> omega
          refine zv_iconst hx hb dX5_lodges_46 ?_
          refine zv_icmp_eq (tgt := 56) hx hb (by omega) (by omega) dX5_lodges_47 (by decide) (fun c_47 => ?_) (fun c_47 => ?_)
          · refine zv_iinc (k := 2) (a := b) (n := 1) (lv' := [(2, .int (zI (b + 1))), (0, .ref w0), (1, .int (zI bt))]) hx hb dX5_lodges_56 hl rfl (by decide) rfl (fun ls hl => ?_)
            refine lv_goto (tgt := 17) hx hb dX5_lodges_59 (by decide) ?_
            exact ih17 bt (b + 1) (by omega) (by omega) (by omega) (by rw [lgS_s (by omega), ← hbt]; first | (rw [if_pos (okB_t c_28 (Decidable.byContradiction (fun q => by rw [if_neg q] at c_47; exact c_47 rfl)))]) | (rw [if_neg (okB_f (by intro q; rw [if_pos q] at c_47; omega))]; omega) | (rw [if_neg (okB_g c_28)]; omega)) _ (lv_sub hl [1, 2, 0] rfl)
          · have bb := lgS_b (okB so le ri ti n ts tc tn) b.toNat
            rw [← hbt] at bb
            refine lv_iload_n hx hb dX5_lodges_50 rfl (lv_at hl 1 rfl) ?_
            refine zv_iconst hx hb dX5_lodges_51 ?_
            refine lv_iload_n hx hb dX5_lodges_52 rfl (lv_at hl 2 rfl) ?_
            refine zv_ishl (z := 2 ^ b.toNat) hx hb (zb_1shl (by omega)) dX5_lodges_53 ?_
            refine zv_ior (z := bt + 2 ^ b.toNat) hx hb (zb_orp (by omega) bb) dX5_lodges_54 ?_
            refine lv_istore_n (lv' := [(1, .int (zI (bt + 2 ^ b.toNat))), (0, .ref w0), (2, .int (zI b))]) hx hb dX5_lodges_55 rfl hl (by decide) rfl (fun ls hl => ?_)
            refine zv_iinc (k := 2) (a := b) (n := 1) (lv' := [(2, .int (zI (b + 1))), (1, .int (zI (bt + 2 ^ b.toNat))), (0, .ref w0)]) hx hb dX5_lodges_56 hl rfl (by decide) rfl (fun ls hl => ?_)
            refine lv_goto (tgt := 17) hx hb dX5_lodges_59 (by decide) ?_
            exact ih17 (bt + 2 ^ b.toNat) (b + 1) (by omega) (by omega) (by omega) (by rw [lgS_s (by omega), ← hbt]; first | (rw [if_pos (okB_t c_28 (Decidable.byContradiction (fun q => by rw [if_neg q] at c_47; exact c_47 rfl)))]) | (rw [if_neg (okB_f (by intro q; rw [if_pos q] at c_47; omega))]; omega) | (rw [if_neg (okB_g c_28)]; omega)) _ (lv_sub hl [2, 1, 0] rfl)
  refine lv_aload_n hx hb dX5_lodges_0 rfl (lv_at hl 0 rfl) ?_
  refine va_get (D := (dC, dI)) (ci := 4) (v := .ref h0) (C := RX5) (T := TX5) (N := 12) hx hb hts in_X5 hown hK hP 0 rfl rfl 1 (by decide) w_1 (fun _ h9 => h9) rfl dX5_lodges_1 ?_
  refine va_getN (D := (dC, dI)) (ci := 0) (v := .int (zI n)) (C := RX0) (T := TX0) (N := 5) hx hb hts in_X0 hown hK hP 1 rfl rfl 0 (by decide) n_78 (fun _ h9 => h9) rfl dX5_lodges_4 ?_
  refine zv_if_ne (tgt := 13) hx hb (by omega) dX5_lodges_7 (by decide) (fun c_7 => ?_) (fun c_7 => ?_)
  · refine zv_iconst hx hb dX5_lodges_13 ?_
    refine lv_istore_n (lv' := [(1, .int (zI 0)), (0, .ref w0)]) hx hb dX5_lodges_14 rfl hl (by decide) rfl (fun ls hl => ?_)
    refine zv_iconst hx hb dX5_lodges_15 ?_
    refine lv_istore_n (lv' := [(2, .int (zI 0)), (1, .int (zI 0)), (0, .ref w0)]) hx hb dX5_lodges_16 rfl hl (by decide) rfl (fun ls hl => ?_)
    exact cut17 _ 0 0 (Nat.lt_succ_self _) (by omega) (by omega) (by rfl) _ (lv_sub hl [2, 1, 0] rfl)
  · refine zv_bipush hx hb dX5_lodges_10 (by decide +kernel) ?_
    rw [← hQQ]
    exact zr_iret hx hb hr hlocks (congrArg zI (show (-2) = q_lodges so le ri ti n ts tc tn from by unfold q_lodges; rw [if_pos (by omega)])) dX5_lodges_12
