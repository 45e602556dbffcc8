theorem sOk_up {n : Int} {so le ri ti st : Int → Int} (hh : hOk n so le ri ti) (h : sOk n so ti st) {k v : Int} (h0 : 0 ≤ k) (h1 : k < n) (hv : 0 ≤ v) (h2 : so k = 1 ∨ so k = 3) (h3 : so k = 1 → v < 2 * ti k) (h4 : so k = 3 → v < ti k) : sOk n so ti (zu st k v) := by
  intro j j0 j1
  by_cases hj : j = k
  · subst hj
    rw [zu_s]
    exact ⟨hv, fun _ => ⟨h3, h4, fun q => by omega⟩, fun q => by omega⟩
  · rw [zu_n hj]
    exact h j j0 j1
set_option maxHeartbeats 4000000 in
set_option maxRecDepth 100000 in
theorem c_X0_append (l : Launch) (dC : Nat → ClassId) (dI : Nat → Nat → Nat) (cI cB cZ : ClassId) (h0 : Nat) (h1 : Nat) (h2 : Nat) (h3 : Nat) (h4 : Nat) (n : Int) (so : Int → Int) (le : Int → Int) (ri : Int → Int) (ti : Int → Int) (a : Int) (b : Int) (d : Int) (t : Int) (hn : 0 ≤ n ∧ n < 9) : MetW (S := Unit) l yX0_append wsX0_append ({ frames := 0, cells := 0, slots := 0, locals := 0 }) (dC, dI) vwCl (zT cI cB cZ) zN [(h0, .inr (0, [.int (zI n), .ref h1, .ref h2, .ref h3, .ref h4])), (h1, .inl (cI, 9, .inl (zA so))), (h2, .inl (cI, 9, .inl (zA le))), (h3, .inl (cI, 9, .inl (zA ri))), (h4, .inl (cI, 9, .inl (zA ti)))] [.ref h0, .int (zI a), .int (zI b), .int (zI d), .int (zI t)] (fun u => none) (fun u => [(h0, .inr (0, [.int (zI (n + 1)), .ref h1, .ref h2, .ref h3, .ref h4])), (h1, .inl (cI, 9, .inl (zA (zu so n a)))), (h2, .inl (cI, 9, .inl (zA (zu le n b)))), (h3, .inl (cI, 9, .inl (zA (zu ri n d)))), (h4, .inl (cI, 9, .inl (zA (zu ti n t))))]) (fun u => True) := by
  refine MetW.intro (cc := cX0_append) (maxL := 5) (ret := none) (by decide) rfl (Nat.le_of_ble_eq_true rfl) ?_
  intro p e s m args below meth c A hx hb hr hlocks hml hts hown hP hK hD hS hA hE ls hl
  have hown : s.vm.findClass RX0 = some m.cls := hown
  have hl : lv_has ls 5 [(0, .ref h0), (1, .int (zI a)), (2, .int (zI b)), (3, .int (zI d)), (4, .int (zI t))] := hl
  generalize hRM : ({ frames := 0, cells := 0, slots := 0, locals := 0 } : Room) = RM
  generalize hQQ : MQ below (QW (S := Unit) (dC, dI) vwCl A (fun u => none) (fun u => [(h0, .inr (0, [.int (zI (n + 1)), .ref h1, .ref h2, .ref h3, .ref h4])), (h1, .inl (cI, 9, .inl (zA (zu so n a)))), (h2, .inl (cI, 9, .inl (zA (zu le n b)))), (h3, .inl (cI, 9, .inl (zA (zu ri n d)))), (h4, .inl (cI, 9, .inl (zA (zu ti n t))))]) (fun u => True)) args s 0 0 A = QQ
  have in_X0 : ∀ w ∈ wsX00, w ∈ wsX0_append := by decide +kernel
  have w_0 := hts (.fieldLink RX0 24 "WallMarbles$House" "size" "I") (by decide +kernel)
  have w_1 := hts (.fieldLink RX0 9 "WallMarbles$House" "sorts" "[I") (by decide +kernel)
  have w_2 := hts (.fieldLink RX0 15 "WallMarbles$House" "lefts" "[I") (by decide +kernel)
  have w_3 := hts (.fieldLink RX0 18 "WallMarbles$House" "rights" "[I") (by decide +kernel)
  have w_4 := hts (.fieldLink RX0 21 "WallMarbles$House" "turns" "[I") (by decide +kernel)
  refine lv_aload_n hx hb dX0_append_0 rfl (lv_at hl 0 rfl) ?_
  refine va_get (D := (dC, dI)) (ci := 0) (v := .int (zI n)) (C := RX0) (T := TX0) (N := 5) hx hb hts in_X0 hown hK hP 0 rfl rfl 0 (by decide) w_0 (fun _ h9 => h9) rfl dX0_append_1 ?_
  refine zv_if_lt (tgt := 16) hx hb (by omega) dX0_append_4 (by decide) (fun c_4 => ?_) (fun c_4 => ?_)
  · exfalso; omega
  · refine lv_aload_n hx hb dX0_append_7 rfl (lv_at hl 0 rfl) ?_
    refine va_get (D := (dC, dI)) (ci := 0) (v := .int (zI n)) (C := RX0) (T := TX0) (N := 5) hx hb hts in_X0 hown hK hP 0 rfl rfl 0 (by decide) w_0 (fun _ h9 => h9) rfl dX0_append_8 ?_
    refine zv_bipush hx hb dX0_append_11 (by decide +kernel) ?_
    refine zv_icmp_lt (tgt := 17) hx hb (by omega) (by omega) dX0_append_13 (by decide) (fun c_13 => ?_) (fun c_13 => ?_)
    · refine lv_aload_n hx hb dX0_append_17 rfl (lv_at hl 0 rfl) ?_
      refine va_get (D := (dC, dI)) (ci := 0) (v := .ref h1) (C := RX0) (T := TX0) (N := 5) hx hb hts in_X0 hown hK hP 0 rfl rfl 1 (by decide) w_1 (fun _ h9 => h9) rfl dX0_append_18 ?_
      refine lv_aload_n hx hb dX0_append_21 rfl (lv_at hl 0 rfl) ?_
      refine va_get (D := (dC, dI)) (ci := 0) (v := .int (zI n)) (C := RX0) (T := TX0) (N := 5) hx hb hts in_X0 hown hK hP 0 rfl rfl 0 (by decide) w_0 (fun _ h9 => h9) rfl dX0_append_22 ?_
      refine lv_iload_n hx hb dX0_append_25 rfl (lv_at hl 1 rfl) ?_
      refine zv_iast (ws' := [(h0, .inr (0, [.int (zI n), .ref h1, .ref h2, .ref h3, .ref h4])), (h1, .inl (cI, 9, .inl (zA (zu so n a)))), (h2, .inl (cI, 9, .inl (zA le))), (h3, .inl (cI, 9, .inl (zA ri))), (h4, .inl (cI, 9, .inl (zA ti)))]) hx hb hK hP hD hS 1 0 rfl rfl (by omega) rfl dX0_append_26 (fun H locs hP hD hS => ?_)
      refine lv_aload_n hx hb dX0_append_27 rfl (lv_at hl 0 rfl) ?_
      refine va_get (D := (dC, dI)) (ci := 0) (v := .ref h2) (C := RX0) (T := TX0) (N := 5) hx hb hts in_X0 hown hK hP 0 rfl rfl 2 (by decide) w_2 (fun _ h9 => h9) rfl dX0_append_28 ?_
      refine lv_aload_n hx hb dX0_append_31 rfl (lv_at hl 0 rfl) ?_
      refine va_get (D := (dC, dI)) (ci := 0) (v := .int (zI n)) (C := RX0) (T := TX0) (N := 5) hx hb hts in_X0 hown hK hP 0 rfl rfl 0 (by decide) w_0 (fun _ h9 => h9) rfl dX0_append_32 ?_
      refine lv_iload_n hx hb dX0_append_35 rfl (lv_at hl 2 rfl) ?_
      refine zv_iast (ws' := [(h0, .inr (0, [.int (zI n), .ref h1, .ref h2, .ref h3, .ref h4])), (h1, .inl (cI, 9, .inl (zA (zu so n a)))), (h2, .inl (cI, 9, .inl (zA (zu le n b)))), (h3, .inl (cI, 9, .inl (zA ri))), (h4, .inl (cI, 9, .inl (zA ti)))]) hx hb hK hP hD hS 2 0 rfl rfl (by omega) rfl dX0_append_36 (fun H locs hP hD hS => ?_)
      refine lv_aload_n hx hb dX0_append_37 rfl (lv_at hl 0 rfl) ?_
      refine va_get (D := (dC, dI)) (ci := 0) (v := .ref h3) (C := RX0) (T := TX0) (N := 5) hx hb hts in_X0 hown hK hP 0 rfl rfl 3 (by decide) w_3 (fun _ h9 => h9) rfl dX0_append_38 ?_
      refine lv_aload_n hx hb dX0_append_41 rfl (lv_at hl 0 rfl) ?_
      refine va_get (D := (dC, dI)) (ci := 0) (v := .int (zI n)) (C := RX0) (T := TX0) (N := 5) hx hb hts in_X0 hown hK hP 0 rfl rfl 0 (by decide) w_0 (fun _ h9 => h9) rfl dX0_append_42 ?_
      refine lv_iload_n hx hb dX0_append_45 rfl (lv_at hl 3 rfl) ?_
      refine zv_iast (ws' := [(h0, .inr (0, [.int (zI n), .ref h1, .ref h2, .ref h3, .ref h4])), (h1, .inl (cI, 9, .inl (zA (zu so n a)))), (h2, .inl (cI, 9, .inl (zA (zu le n b)))), (h3, .inl (cI, 9, .inl (zA (zu ri n d)))), (h4, .inl (cI, 9, .inl (zA ti)))]) hx hb hK hP hD hS 3 0 rfl rfl (by omega) rfl dX0_append_46 (fun H locs hP hD hS => ?_)
      refine lv_aload_n hx hb dX0_append_47 rfl (lv_at hl 0 rfl) ?_
      refine va_get (D := (dC, dI)) (ci := 0) (v := .ref h4) (C := RX0) (T := TX0) (N := 5) hx hb hts in_X0 hown hK hP 0 rfl rfl 4 (by decide) w_4 (fun _ h9 => h9) rfl dX0_append_48 ?_
      refine lv_aload_n hx hb dX0_append_51 rfl (lv_at hl 0 rfl) ?_
      refine va_get (D := (dC, dI)) (ci := 0) (v := .int (zI n)) (C := RX0) (T := TX0) (N := 5) hx hb hts in_X0 hown hK hP 0 rfl rfl 0 (by decide) w_0 (fun _ h9 => h9) rfl dX0_append_52 ?_
      refine lv_iload hx hb dX0_append_55 (lv_at hl 4 rfl) ?_
      refine zv_iast (ws' := [(h0, .inr (0, [.int (zI n), .ref h1, .ref h2, .ref h3, .ref h4])), (h1, .inl (cI, 9, .inl (zA (zu so n a)))), (h2, .inl (cI, 9, .inl (zA (zu le n b)))), (h3, .inl (cI, 9, .inl (zA (zu ri n d)))), (h4, .inl (cI, 9, .inl (zA (zu ti n t))))]) hx hb hK hP hD hS 4 0 rfl rfl (by omega) rfl dX0_append_57 (fun H locs hP hD hS => ?_)
      refine lv_aload_n hx hb dX0_append_58 rfl (lv_at hl 0 rfl) ?_
      refine lv_dup hx hb dX0_append_59 rfl ?_
      refine va_get (D := (dC, dI)) (ci := 0) (v := .int (zI n)) (C := RX0) (T := TX0) (N := 5) hx hb hts in_X0 hown hK hP 0 rfl rfl 0 (by decide) w_0 (fun _ h9 => h9) rfl dX0_append_60 ?_
      refine zv_iconst hx hb dX0_append_63 ?_
      refine zv_iadd hx hb dX0_append_64 ?_
      refine va_put (D := (dC, dI)) (ci := 0) (v := .int (zI (n + 1))) (ty := .int) (C := RX0) (T := TX0) (N := 5) hx hb hts in_X0 tyX0 tyX0_ok nmX0 hown hK hP hD hS 0 rfl rfl 0 (by decide) w_0 (fun _ h9 => h9) rfl (by decide +kernel) rfl rfl (Nat.le_of_ble_eq_true rfl) dX0_append_65 (fun H locs hP hD hS => ?_)
      have hP : va_P (dC, dI) vwCl [(h0, .inr (0, [.int (zI (n + 1)), .ref h1, .ref h2, .ref h3, .ref h4])), (h1, .inl (cI, 9, .inl (zA (zu so n a)))), (h2, .inl (cI, 9, .inl (zA (zu le n b)))), (h3, .inl (cI, 9, .inl (zA (zu ri n d)))), (h4, .inl (cI, 9, .inl (zA (zu ti n t))))] H := hP
      have hD : va_D A [(h0, .inr (0, [.int (zI (n + 1)), .ref h1, .ref h2, .ref h3, .ref h4])), (h1, .inl (cI, 9, .inl (zA (zu so n a)))), (h2, .inl (cI, 9, .inl (zA (zu le n b)))), (h3, .inl (cI, 9, .inl (zA (zu ri n d)))), (h4, .inl (cI, 9, .inl (zA (zu ti n t))))] := hD
      rw [← hQQ]
      exact zw_vret hx hb hr hlocks () rfl trivial hP hS dX0_append_68
    · exfalso; omega
set_option maxHeartbeats 4000000 in
set_option maxRecDepth 100000 in
theorem c_X0_landings (l : Launch) (dC : Nat → ClassId) (dI : Nat → Nat → Nat) (cI cB cZ : ClassId) (h0 : Nat) (h1 : Nat) (h2 : Nat) (h3 : Nat) (h4 : Nat) (n : Int) (so : Int → Int) (le : Int → Int) (ri : Int → Int) (ti : Int → Int) (hh : hOk n so le ri ti) : MetR l yX0_landings wsX0_landings ({ frames := 2, cells := 0, slots := 0, locals := 42 }) (dC, dI) vwCl (zT cI cB cZ) zN [(h0, .inr (0, [.int (zI n), .ref h1, .ref h2, .ref h3, .ref h4])), (h1, .inl (cI, 9, .inl (zA so))), (h2, .inl (cI, 9, .inl (zA le))), (h3, .inl (cI, 9, .inl (zA ri))), (h4, .inl (cI, 9, .inl (zA ti)))] [.ref h0] (zI (sF (gL so) n.toNat)) := by
  refine MetR.intro (cc := cX0_landings) (maxL := 3) (ret := (some .int)) (by decide) rfl (Nat.le_of_ble_eq_true rfl) ?_
  intro p e s m args below meth c hx hb hr hlocks hml hts hown hP hK hE ls hl
  have hown : s.vm.findClass RX0 = some m.cls := hown
  have hl : lv_has ls 3 [(0, .ref h0)] := hl
  generalize hRM : ({ frames := 2, cells := 0, slots := 0, locals := 42 } : Room) = RM
  generalize hQQ : MQ below (vp_Si (fun r => r = zI (sF (gL so) n.toNat))) args s 0 0 (fun _ => False) = QQ
  have in_X0 : ∀ w ∈ wsX00, w ∈ wsX0_landings := by decide +kernel
  have w_0 := hts (.fieldLink RX0 24 "WallMarbles$House" "size" "I") (by decide +kernel)
  have hn := hh.1
  have cut4 : ∀ (nM : Nat) (k : Int) (acc : Int),  ((n - k).toNat) < nM → (0 ≤ k ∧ k ≤ n) → (acc = sF (gL so) k.toNat) → ∀ ls : Array Slot, lv_has ls 3 [(0, .ref h0), (1, .int (zI acc)), (2, .int (zI k))] → W p l e RM s m args below meth c s.heap [] 0 0 QQ (F0 m 4 ls []) := by
    intro nM
    induction nM with
    | zero => intro k acc hmu; exact absurd hmu (Nat.not_lt_zero _)
    | succ nM ih4 =>
      intro k acc hmu hk hac ls hl
      refine lv_iload_n hx hb dX0_landings_4 rfl (lv_at hl 2 rfl) ?_
      refine lv_aload_n hx hb dX0_landings_5 rfl (lv_at hl 0 rfl) ?_
      refine va_get (D := (dC, dI)) (ci := 0) (v := .int (zI n)) (C := RX0) (T := TX0) (N := 5) hx hb hts in_X0 hown hK hP 0 rfl rfl 0 (by decide) w_0 (fun _ h9 => h9) rfl dX0_landings_6 ?_
      refine zv_icmp_ge (tgt := 29) hx hb (by omega) (by omega) dX0_landings_9 (by decide) (fun c_9 => ?_) (fun c_9 => ?_)
      · refine lv_iload_n hx hb dX0_landings_29 rfl (lv_at hl 1 rfl) ?_
        rw [← hQQ]
        exact zr_iret hx hb hr hlocks (congrArg zI (show acc = sF (gL so) n.toNat from by rw [hac, show k = n by omega])) dX0_landings_30
      · have hn := hh.1
        refine lv_aload_n hx hb dX0_landings_12 rfl (lv_at hl 0 rfl) ?_
        refine lv_iload_n hx hb dX0_landings_13 rfl (lv_at hl 2 rfl) ?_
        refine zv_callRV (As := [.int (zI k)]) (rest := []) ⟨hx, hb, hml, hown, hts⟩ (c_X0_isLanding l dC dI cI cB cZ h0 h1 h2 h3 h4 n so le ri ti k (by omega) (by omega)) (cwV 1 hts gX0_landings_X0_isLanding rfl rfl rfl (by decide +kernel) ⟨by rw [← hRM]; first | decide | (dsimp only; omega), by rw [← hRM]; first | decide | (dsimp only; omega)⟩) hP hK [0, 1, 2, 3, 4] rfl [0, 1, 2] rfl zN_bl (zN_go hE) (q0 := 0) rfl rfl rfl rfl hl.1 rfl (Nat.le_of_ble_eq_true rfl) dX0_landings_14 ⟨Nat.zero_le _, Nat.zero_le _⟩ ?_
        refine zv_ifeq_b (tgt := 23) hx hb dX0_landings_17 (by decide) (fun c_17 => ?_) (fun c_17 => ?_)
        · refine zv_iinc (k := 2) (a := k) (n := 1) (lv' := [(2, .int (zI (k + 1))), (0, .ref h0), (1, .int (zI acc))]) hx hb dX0_landings_23 hl rfl (by decide) rfl (fun ls hl => ?_)
          refine lv_goto (tgt := 4) hx hb dX0_landings_26 (by decide) ?_
          exact ih4 (k + 1) acc (by omega) (by omega) (by rw [sF_s _ (by omega), ← hac]; unfold gL; split <;> omega) _ (lv_sub hl [1, 2, 0] rfl)
        · refine zv_iinc (k := 1) (a := acc) (n := 1) (lv' := [(1, .int (zI (acc + 1))), (0, .ref h0), (2, .int (zI k))]) hx hb dX0_landings_20 hl rfl (by decide) rfl (fun ls hl => ?_)
          refine zv_iinc (k := 2) (a := k) (n := 1) (lv' := [(2, .int (zI (k + 1))), (1, .int (zI (acc + 1))), (0, .ref h0)]) hx hb dX0_landings_23 hl rfl (by decide) rfl (fun ls hl => ?_)
          refine lv_goto (tgt := 4) hx hb dX0_landings_26 (by decide) ?_
          exact ih4 (k + 1) (acc + 1) (by omega) (by omega) (by rw [sF_s _ (by omega), ← hac]; unfold gL; split <;> omega) _ (lv_sub hl [2, 1, 0] rfl)
  refine zv_iconst hx hb dX0_landings_0 ?_
  refine lv_istore_n (lv' := [(1, .int (zI 0)), (0, .ref h0)]) hx hb dX0_landings_1 rfl hl (by decide) rfl (fun ls hl => ?_)
  refine zv_iconst hx hb dX0_landings_2 ?_
  refine lv_istore_n (lv' := [(2, .int (zI 0)), (1, .int (zI 0)), (0, .ref h0)]) hx hb dX0_landings_3 rfl hl (by decide) rfl (fun ls hl => ?_)
  exact cut4 _ 0 0 (Nat.lt_succ_self _) (by omega) (by rfl) _ (lv_sub hl [2, 1, 0] rfl)
set_option maxHeartbeats 4000000 in
set_option maxRecDepth 100000 in
theorem c_X0_cupsHolding (l : Launch) (dC : Nat → ClassId) (dI : Nat → Nat → Nat) (cI cB cZ : ClassId) (h0 : Nat) (h1 : Nat) (h2 : Nat) (h3 : Nat) (h4 : Nat) (n : Int) (so : Int → Int) (le : Int → Int) (ri : Int → Int) (ti : Int → Int) (st : Int → Int) (hh : hOk n so le ri ti) (hs : sOk n so ti st) : MetR l yX0_cupsHolding wsX0_cupsHolding ({ frames := 2, cells := 0, slots := 0, locals := 42 }) (dC, dI) vwCl (zT cI cB cZ) zN [(h0, .inr (0, [.int (zI n), .ref h1, .ref h2, .ref h3, .ref h4])), (h1, .inl (cI, 9, .inl (zA so))), (h2, .inl (cI, 9, .inl (zA le))), (h3, .inl (cI, 9, .inl (zA ri))), (h4, .inl (cI, 9, .inl (zA ti)))] [.ref h0, .int (zI (pk st))] (zI (sF (gC so st) n.toNat)) := by
  refine MetR.intro (cc := cX0_cupsHolding) (maxL := 4) (ret := (some .int)) (by decide) rfl (Nat.le_of_ble_eq_true rfl) ?_
  intro p e s m args below meth c hx hb hr hlocks hml hts hown hP hK hE ls hl
  have hown : s.vm.findClass RX0 = some m.cls := hown
  have hl : lv_has ls 4 [(0, .ref h0), (1, .int (zI (pk st)))] := hl
  generalize hRM : ({ frames := 2, cells := 0, slots := 0, locals := 42 } : Room) = RM
  generalize hQQ : MQ below (vp_Si (fun r => r = zI (sF (gC so st) n.toNat))) args s 0 0 (fun _ => False) = QQ
  have in_X0 : ∀ w ∈ wsX00, w ∈ wsX0_cupsHolding := by decide +kernel
  have w_0 := hts (.fieldLink RX0 24 "WallMarbles$House" "size" "I") (by decide +kernel)
  have hn := hh.1
  have cut4 : ∀ (nM : Nat) (k : Int) (acc : Int),  ((n - k).toNat) < nM → (0 ≤ k ∧ k ≤ n) → (acc = sF (gC so st) k.toNat) → ∀ ls : Array Slot, lv_has ls 4 [(0, .ref h0), (1, .int (zI (pk st))), (2, .int (zI acc)), (3, .int (zI k))] → W p l e RM s m args below meth c s.heap [] 0 0 QQ (F0 m 4 ls []) := by
    intro nM
    induction nM with
    | zero => intro k acc hmu; exact absurd hmu (Nat.not_lt_zero _)
    | succ nM ih4 =>
      intro k acc hmu hk hac ls hl
      have hn := hh.1
      refine lv_iload_n hx hb dX0_cupsHolding_4 rfl (lv_at hl 3 rfl) ?_
      refine lv_aload_n hx hb dX0_cupsHolding_5 rfl (lv_at hl 0 rfl) ?_
      refine va_get (D := (dC, dI)) (ci := 0) (v := .int (zI n)) (C := RX0) (T := TX0) (N := 5) hx hb hts in_X0 hown hK hP 0 rfl rfl 0 (by decide) w_0 (fun _ h9 => h9) rfl dX0_cupsHolding_6 ?_
      refine zv_icmp_ge (tgt := 38) hx hb (by omega) (by omega) dX0_cupsHolding_9 (by decide) (fun c_9 => ?_) (fun c_9 => ?_)
      · refine lv_iload_n hx hb dX0_cupsHolding_38 rfl (lv_at hl 2 rfl) ?_
        rw [← hQQ]
        exact zr_iret hx hb hr hlocks (congrArg zI (show acc = sF (gC so st) n.toNat from by rw [hac, show k = n by omega])) dX0_cupsHolding_39
      · have z1 := (hh.2 k (by omega) (by omega)).1
        have z2 := sOk_lt hh hs (k := k) (by omega) (by omega)
        refine lv_aload_n hx hb dX0_cupsHolding_12 rfl (lv_at hl 0 rfl) ?_
        refine lv_iload_n hx hb dX0_cupsHolding_13 rfl (lv_at hl 3 rfl) ?_
        refine zv_callRV (As := [.int (zI k)]) (rest := []) ⟨hx, hb, hml, hown, hts⟩ (c_X0_sortOf l dC dI cI cB cZ h0 h1 h2 h3 h4 n so le ri ti k (by omega) (by omega)) (cwV 1 hts gX0_cupsHolding_X0_sortOf rfl rfl rfl (by decide +kernel) ⟨by rw [← hRM]; first | decide | (dsimp only; omega), by rw [← hRM]; first | decide | (dsimp only; omega)⟩) hP hK [0, 1, 2, 3, 4] rfl [0, 1, 2] rfl zN_bl (zN_go hE) (q0 := 0) rfl rfl rfl rfl hl.1 rfl (Nat.le_of_ble_eq_true rfl) dX0_cupsHolding_14 ⟨Nat.zero_le _, Nat.zero_le _⟩ ?_
        rw [show (if 0 ≤ k ∧ k < n then so k else -9) = so k from if_pos ⟨by omega, by omega⟩]
        refine zv_iconst hx hb dX0_cupsHolding_17 ?_
        refine zv_icmp_ne (tgt := 32) hx hb (by omega) (by omega) dX0_cupsHolding_18 (by decide) (fun c_18 => ?_) (fun c_18 => ?_)
        · refine zv_iinc (k := 3) (a := k) (n := 1) (lv' := [(3, .int (zI (k + 1))), (0, .ref h0), (1, .int (zI (pk st))), (2, .int (zI acc))]) hx hb dX0_cupsHolding_32 hl rfl (by decide) rfl (fun ls hl => ?_)
          refine lv_goto (tgt := 4) hx hb dX0_cupsHolding_35 (by decide) ?_
          exact ih4 (k + 1) acc (by omega) (by omega) (by rw [sF_s _ (by omega), ← hac]; unfold gC; split <;> omega) _ (lv_sub hl [1, 2, 3, 0] rfl)
        · refine lv_iload_n hx hb dX0_cupsHolding_21 rfl (lv_at hl 1 rfl) ?_
          refine lv_iload_n hx hb dX0_cupsHolding_22 rfl (lv_at hl 3 rfl) ?_
          refine zv_callRS (As := [.int (zI (pk st)), .int (zI k)]) (rest := []) ⟨hx, hb, hml, hown, hts⟩ (c_X2_standAt l dC dI cI cB cZ st k (by exact sOk_s7 hh hs) (by omega)) (va_cwS 2 hts gX0_cupsHolding_X2_standAt rfl rfl rfl (by decide +kernel) ⟨by rw [← hRM]; first | decide | (dsimp only; omega), by rw [← hRM]; first | decide | (dsimp only; omega)⟩) hP hK [] rfl [0, 1, 2] rfl zN_bl (zN_go hE) rfl hl.1 rfl (Nat.le_of_ble_eq_true rfl) dX0_cupsHolding_23 ⟨Nat.zero_le _, Nat.zero_le _⟩ ?_
          refine zv_if_le (tgt := 32) hx hb (by omega) dX0_cupsHolding_26 (by decide) (fun c_26 => ?_) (fun c_26 => ?_)
          · refine zv_iinc (k := 3) (a := k) (n := 1) (lv' := [(3, .int (zI (k + 1))), (0, .ref h0), (1, .int (zI (pk st))), (2, .int (zI acc))]) hx hb dX0_cupsHolding_32 hl rfl (by decide) rfl (fun ls hl => ?_)
            refine lv_goto (tgt := 4) hx hb dX0_cupsHolding_35 (by decide) ?_
            exact ih4 (k + 1) acc (by omega) (by omega) (by rw [sF_s _ (by omega), ← hac]; unfold gC; split <;> omega) _ (lv_sub hl [1, 2, 3, 0] rfl)
          · refine zv_iinc (k := 2) (a := acc) (n := 1) (lv' := [(2, .int (zI (acc + 1))), (0, .ref h0), (1, .int (zI (pk st))), (3, .int (zI k))]) hx hb dX0_cupsHolding_29 hl rfl (by decide) rfl (fun ls hl => ?_)
            refine zv_iinc (k := 3) (a := k) (n := 1) (lv' := [(3, .int (zI (k + 1))), (2, .int (zI (acc + 1))), (0, .ref h0), (1, .int (zI (pk st)))]) hx hb dX0_cupsHolding_32 hl rfl (by decide) rfl (fun ls hl => ?_)
            refine lv_goto (tgt := 4) hx hb dX0_cupsHolding_35 (by decide) ?_
            exact ih4 (k + 1) (acc + 1) (by omega) (by omega) (by rw [sF_s _ (by omega), ← hac]; unfold gC; split <;> omega) _ (lv_sub hl [2, 3, 1, 0] rfl)
  refine zv_iconst hx hb dX0_cupsHolding_0 ?_
  refine lv_istore_n (lv' := [(2, .int (zI 0)), (0, .ref h0), (1, .int (zI (pk st)))]) hx hb dX0_cupsHolding_1 rfl hl (by decide) rfl (fun ls hl => ?_)
  refine zv_iconst hx hb dX0_cupsHolding_2 ?_
  refine lv_istore_n (lv' := [(3, .int (zI 0)), (2, .int (zI 0)), (0, .ref h0), (1, .int (zI (pk st)))]) hx hb dX0_cupsHolding_3 rfl hl (by decide) rfl (fun ls hl => ?_)
  exact cut4 _ 0 0 (Nat.lt_succ_self _) (by omega) (by rfl) _ (lv_sub hl [2, 3, 1, 0] rfl)
set_option maxHeartbeats 4000000 in
set_option maxRecDepth 100000 in
theorem c_X0_fall (l : Launch) (dC : Nat → ClassId) (dI : Nat → Nat → Nat) (cI cB cZ : ClassId) (h0 : Nat) (h1 : Nat) (h2 : Nat) (h3 : Nat) (h4 : Nat) (n : Int) (so : Int → Int) (le : Int → Int) (ri : Int → Int) (ti : Int → Int) (st : Int → Int) (mz : Int) (lod : Int) (hh : hOk n so le ri ti) (hn1 : 1 ≤ n) (hs : sOk n so ti st) (hm : mz = 0 ∨ mz = 1) (hlo : -9 ≤ lod ∧ lod ≤ 8) : MetR l yX0_fall wsX0_fall ({ frames := 1, cells := 0, slots := 0, locals := 23 }) (dC, dI) vwCl (zT cI cB cZ) zN [(h0, .inr (0, [.int (zI n), .ref h1, .ref h2, .ref h3, .ref h4])), (h1, .inl (cI, 9, .inl (zA so))), (h2, .inl (cI, 9, .inl (zA le))), (h3, .inl (cI, 9, .inl (zA ri))), (h4, .inl (cI, 9, .inl (zA ti)))] [.ref h0, .int (zI (pk st)), .int (zI mz), .int (zI lod)] (zI (oc (pk (goS so le ri ti lod mz 9 st (n - 1)).1) (goS so le ri ti lod mz 9 st (n - 1)).2)) := by
  refine MetR.intro (cc := cX0_fall) (maxL := 10) (ret := (some .int)) (by decide) rfl (Nat.le_of_ble_eq_true rfl) ?_
  intro p e s m args below meth c hx hb hr hlocks hml hts hown hP hK hE ls hl
  have hown : s.vm.findClass RX0 = some m.cls := hown
  have hl : lv_has ls 10 [(0, .ref h0), (1, .int (zI (pk st))), (2, .int (zI mz)), (3, .int (zI lod))] := hl
  generalize hRM : ({ frames := 1, cells := 0, slots := 0, locals := 23 } : Room) = RM
  generalize hQQ : MQ below (vp_Si (fun r => r = zI (oc (pk (goS so le ri ti lod mz 9 st (n - 1)).1) (goS so le ri ti lod mz 9 st (n - 1)).2))) args s 0 0 (fun _ => False) = QQ
  have in_X0 : ∀ w ∈ wsX00, w ∈ wsX0_fall := by decide +kernel
  have w_0 := hts (.fieldLink RX0 21 "WallMarbles$House" "turns" "[I") (by decide +kernel)
  have w_1 := hts (.fieldLink RX0 9 "WallMarbles$House" "sorts" "[I") (by decide +kernel)
  have w_2 := hts (.fieldLink RX0 18 "WallMarbles$House" "rights" "[I") (by decide +kernel)
  have w_3 := hts (.fieldLink RX0 15 "WallMarbles$House" "lefts" "[I") (by decide +kernel)
  have w_4 := hts (.fieldLink RX0 24 "WallMarbles$House" "size" "I") (by decide +kernel)
  have hn := hh.1
  obtain ⟨RR, hRR⟩ : ∃ z, z = goS so le ri ti lod mz 9 st (n - 1) := ⟨_, rfl⟩
  have cut14 : ∀ (nM : Nat) (su : Int → Int) (ax : Int) (stp : Int),  ((9 - stp).toNat) < nM → (0 ≤ stp ∧ stp ≤ 9) → (ax = -9 ∨ (0 ≤ ax ∧ ax < n ∧ ax < 9 - stp)) → (sOk n so ti su) → (RR = if ax = -9 then (su, -9) else goS so le ri ti lod mz (9 - stp).toNat su ax) → ∀ ls : Array Slot, lv_has ls 10 [(0, .ref h0), (2, .int (zI mz)), (3, .int (zI lod)), (4, .int (zI (pk su))), (5, .int (zI ax)), (6, .int (zI stp))] → W p l e RM s m args below meth c s.heap [] 0 0 QQ (F0 m 14 ls []) := by
    intro nM
    induction nM with
    | zero => intro su ax stp hmu; exact absurd hmu (Nat.not_lt_zero _)
    | succ nM ih14 =>
      intro su ax stp hmu q1 q2 q3 q4 ls hl
      have hn := hh.1
      refine lv_iload hx hb dX0_fall_14 (lv_at hl 5 rfl) ?_
      refine zv_bipush hx hb dX0_fall_16 (by decide +kernel) ?_
      refine zv_icmp_ge (tgt := 245) hx hb (by omega) (by omega) dX0_fall_18 (by decide) (fun c_18 => ?_) (fun c_18 => ?_)
      · refine lv_iload hx hb dX0_fall_245 (lv_at hl 3 rfl) ?_
        refine zv_bipush hx hb dX0_fall_247 (by decide +kernel) ?_
        refine zv_callRS (As := [.int (zI (pk su)), .int (zI ((-9)))]) (rest := []) ⟨hx, hb, hml, hown, hts⟩ (c_X2_outcome l dC dI cI cB cZ su (-9) (by exact sOk_s7 hh q3) (by omega)) (va_cwS 2 hts gX0_fall_X2_outcome rfl rfl rfl (by decide +kernel) ⟨by rw [← hRM]; first | decide | (dsimp only; omega), by rw [← hRM]; first | decide | (dsimp only; omega)⟩) hP hK [] rfl [0, 1, 2] rfl zN_bl (zN_go hE) rfl hl.1 rfl (Nat.le_of_ble_eq_true rfl) dX0_fall_249 ⟨Nat.zero_le _, Nat.zero_le _⟩ ?_
        rw [← hQQ]
        exact zr_iret hx hb hr hlocks (congrArg zI (show oc (pk su) (-9) = oc (pk (goS so le ri ti lod mz 9 st (n - 1)).1) (goS so le ri ti lod mz 9 st (n - 1)).2 from by first | (exfalso; omega) | ((rw [← hRR, q4]) <;> first | rfl | (rw [if_pos (by omega)])))) dX0_fall_252
      · refine lv_aload_n hx hb dX0_fall_21 rfl (lv_at hl 0 rfl) ?_
        refine lv_iload hx hb dX0_fall_22 (lv_at hl 4 rfl) ?_
        refine zv_callRV (As := [.int (zI ax)]) (rest := []) ⟨hx, hb, hml, hown, hts⟩ (c_X0_has l dC dI cI cB cZ h0 h1 h2 h3 h4 n so le ri ti ax (by omega) (by omega)) (cwV 1 hts gX0_fall_X0_has rfl rfl rfl (by decide +kernel) ⟨by rw [← hRM]; first | decide | (dsimp only; omega), by rw [← hRM]; first | decide | (dsimp only; omega)⟩) hP hK [0, 1, 2, 3, 4] rfl [0, 1, 2] rfl zN_bl (zN_go hE) (q0 := 0) rfl rfl rfl rfl hl.1 rfl (Nat.le_of_ble_eq_true rfl) dX0_fall_24 ⟨Nat.zero_le _, Nat.zero_le _⟩ ?_
        refine zv_ifeq_b (tgt := 245) hx hb dX0_fall_27 (by decide) (fun c_27 => ?_) (fun c_27 => ?_)
        · refine lv_iload hx hb dX0_fall_245 (lv_at hl 3 rfl) ?_
          refine zv_bipush hx hb dX0_fall_247 (by decide +kernel) ?_
          refine zv_callRS (As := [.int (zI (pk su)), .int (zI ((-9)))]) (rest := []) ⟨hx, hb, hml, hown, hts⟩ (c_X2_outcome l dC dI cI cB cZ su (-9) (by exact sOk_s7 hh q3) (by omega)) (va_cwS 2 hts gX0_fall_X2_outcome rfl rfl rfl (by decide +kernel) ⟨by rw [← hRM]; first | decide | (dsimp only; omega), by rw [← hRM]; first | decide | (dsimp only; omega)⟩) hP hK [] rfl [0, 1, 2] rfl zN_bl (zN_go hE) rfl hl.1 rfl (Nat.le_of_ble_eq_true rfl) dX0_fall_249 ⟨Nat.zero_le _, Nat.zero_le _⟩ ?_
          rw [← hQQ]
          exact zr_iret hx hb hr hlocks (congrArg zI (show oc (pk su) (-9) = oc (pk (goS so le ri ti lod mz 9 st (n - 1)).1) (goS so le ri ti lod mz 9 st (n - 1)).2 from by first | (exfalso; omega) | ((rw [← hRR, q4]) <;> first | rfl | (rw [if_pos (by omega)])))) dX0_fall_252
        · have q5 : 0 ≤ ax ∧ ax < n := c_27
          have z0 := hh.2 ax c_27.1 c_27.2
          obtain ⟨z1, z2, z3, z4, z5, z6, z7, z8⟩ := z0
          have z9 := sOk_lt hh q3 (k := ax) (by omega) (by omega)
          have z10 := q3 ax (by omega) (by omega)
          rw [if_neg (show ¬ ax = -9 by omega), show (9 - stp).toNat = (8 - stp).toNat + 1 by omega, goS_succ] at q4
          refine lv_iload hx hb dX0_fall_30 (lv_at hl 4 rfl) ?_
          refine lv_iload_n hx hb dX0_fall_32 rfl (lv_at hl 2 rfl) ?_
          refine zv_icmp_eq (tgt := 245) hx hb (by omega) (by omega) dX0_fall_33 (by decide) (fun c_33 => ?_) (fun c_33 => ?_)
          · refine lv_iload hx hb dX0_fall_245 (lv_at hl 3 rfl) ?_
            refine zv_bipush hx hb dX0_fall_247 (by decide +kernel) ?_
            refine zv_callRS (As := [.int (zI (pk su)), .int (zI ((-9)))]) (rest := []) ⟨hx, hb, hml, hown, hts⟩ (c_X2_outcome l dC dI cI cB cZ su (-9) (by exact sOk_s7 hh q3) (by omega)) (va_cwS 2 hts gX0_fall_X2_outcome rfl rfl rfl (by decide +kernel) ⟨by rw [← hRM]; first | decide | (dsimp only; omega), by rw [← hRM]; first | decide | (dsimp only; omega)⟩) hP hK [] rfl [0, 1, 2] rfl zN_bl (zN_go hE) rfl hl.1 rfl (Nat.le_of_ble_eq_true rfl) dX0_fall_249 ⟨Nat.zero_le _, Nat.zero_le _⟩ ?_
            rw [← hQQ]
            exact zr_iret hx hb hr hlocks (congrArg zI (show oc (pk su) (-9) = oc (pk (goS so le ri ti lod mz 9 st (n - 1)).1) (goS so le ri ti lod mz 9 st (n - 1)).2 from by first | (exfalso; omega) | ((rw [← hRR, q4]) <;> first | rfl | (rw [if_pos (by omega)])))) dX0_fall_252
          · rw [if_neg c_33] at q4
            refine lv_aload_n hx hb dX0_fall_36 rfl (lv_at hl 0 rfl) ?_
            refine va_get (D := (dC, dI)) (ci := 0) (v := .ref h4) (C := RX0) (T := TX0) (N := 5) hx hb hts in_X0 hown hK hP 0 rfl rfl 4 (by decide) w_0 (fun _ h9 => h9) rfl dX0_fall_37 ?_
            refine lv_iload hx hb dX0_fall_40 (lv_at hl 4 rfl) ?_
            refine zv_iald hx hb hK hP 4 0 rfl rfl (by omega) dX0_fall_42 ?_
            refine lv_istore (lv' := [(7, .int (zI (ti ax))), (0, .ref h0), (2, .int (zI mz)), (3, .int (zI lod)), (4, .int (zI (pk su))), (5, .int (zI ax)), (6, .int (zI stp))]) hx hb dX0_fall_43 hl (by decide) rfl (fun ls hl => ?_)
            refine lv_iload hx hb dX0_fall_45 (lv_at hl 4 rfl) ?_
            refine lv_iload hx hb dX0_fall_47 (lv_at hl 5 rfl) ?_
            refine zv_callRS (As := [.int (zI (pk su)), .int (zI ax)]) (rest := []) ⟨hx, hb, hml, hown, hts⟩ (c_X2_standAt l dC dI cI cB cZ su ax (by exact sOk_s7 hh q3) (by omega)) (va_cwS 2 hts gX0_fall_X2_standAt rfl rfl rfl (by decide +kernel) ⟨by rw [← hRM]; first | decide | (dsimp only; omega), by rw [← hRM]; first | decide | (dsimp only; omega)⟩) hP hK [] rfl [0, 1, 2] rfl zN_bl (zN_go hE) rfl hl.1 rfl (Nat.le_of_ble_eq_true rfl) dX0_fall_49 ⟨Nat.zero_le _, Nat.zero_le _⟩ ?_
            refine lv_istore (lv' := [(8, .int (zI (su ax))), (7, .int (zI (ti ax))), (0, .ref h0), (2, .int (zI mz)), (3, .int (zI lod)), (4, .int (zI (pk su))), (5, .int (zI ax)), (6, .int (zI stp))]) hx hb dX0_fall_52 hl (by decide) rfl (fun ls hl => ?_)
            refine lv_aload_n hx hb dX0_fall_54 rfl (lv_at hl 2 rfl) ?_
            refine va_get (D := (dC, dI)) (ci := 0) (v := .ref h1) (C := RX0) (T := TX0) (N := 5) hx hb hts in_X0 hown hK hP 0 rfl rfl 1 (by decide) w_1 (fun _ h9 => h9) rfl dX0_fall_55 ?_
            refine lv_iload hx hb dX0_fall_58 (lv_at hl 6 rfl) ?_
            refine zv_iald hx hb hK hP 1 0 rfl rfl (by omega) dX0_fall_60 ?_
            rcases (show (so ax) = 1 ∨ (so ax) = 2 ∨ (so ax) = 3 ∨ ((so ax) < 1 ∨ 3 < (so ax)) by omega) with c_61 | c_61 | c_61 | c_61
            · refine zv_tableIn (k := 1) (tgt := 88) hx hb (by omega) c_61 (by omega) dX0_fall_61 rfl (by decide) ?_
              rw [if_neg (show ¬ so ax = 0 by omega), if_pos c_61] at q4
              have y2 := z2 (by omega)
              have y3 := z3 (by omega)
              have y4 := z4 c_61
              have y5 := (z10.2.1 (by omega)).1 c_61
              refine lv_iload hx hb dX0_fall_88 (lv_at hl 5 rfl) ?_
              refine lv_iload hx hb dX0_fall_90 (lv_at hl 6 rfl) ?_
              refine lv_iload hx hb dX0_fall_92 (lv_at hl 0 rfl) ?_
              refine zv_iconst hx hb dX0_fall_94 ?_
              refine zv_iadd hx hb dX0_fall_95 ?_
              refine zv_iconst hx hb dX0_fall_96 ?_
              refine lv_iload hx hb dX0_fall_97 (lv_at hl 1 rfl) ?_
              refine zv_imul hx hb dX0_fall_99 ?_
              refine zv_icmp_ge (tgt := 110) hx hb (by omega) (by omega) dX0_fall_100 (by decide) (fun c_100 => ?_) (fun c_100 => ?_)
              · refine zv_iconst hx hb dX0_fall_110 ?_
                refine zv_callRS (As := [.int (zI (pk su)), .int (zI ax), .int (zI 0)]) (rest := []) ⟨hx, hb, hml, hown, hts⟩ (c_X2_withStand l dC dI cI cB cZ su ax 0 (by exact sOk_s7 hh q3) (by omega) (by omega)) (va_cwS 3 hts gX0_fall_X2_withStand rfl rfl rfl (by decide +kernel) ⟨by rw [← hRM]; first | decide | (dsimp only; omega), by rw [← hRM]; first | decide | (dsimp only; omega)⟩) hP hK [] rfl [0, 1, 2] rfl zN_bl (zN_go hE) rfl hl.1 rfl (Nat.le_of_ble_eq_true rfl) dX0_fall_111 ⟨Nat.zero_le _, Nat.zero_le _⟩ ?_
                refine lv_istore (lv' := [(4, .int (zI (pk (zu su ax 0)))), (8, .int (zI (su ax))), (7, .int (zI (ti ax))), (0, .ref h0), (2, .int (zI mz)), (3, .int (zI lod)), (5, .int (zI ax)), (6, .int (zI stp))]) hx hb dX0_fall_114 hl (by decide) rfl (fun ls hl => ?_)
                refine lv_iload hx hb dX0_fall_116 (lv_at hl 1 rfl) ?_
                refine lv_iload hx hb dX0_fall_118 (lv_at hl 2 rfl) ?_
                refine zv_icmp_ge (tgt := 133) hx hb (by omega) (by omega) dX0_fall_120 (by decide) (fun c_120 => ?_) (fun c_120 => ?_)
                · refine lv_aload_n hx hb dX0_fall_133 rfl (lv_at hl 3 rfl) ?_
                  refine va_get (D := (dC, dI)) (ci := 0) (v := .ref h3) (C := RX0) (T := TX0) (N := 5) hx hb hts in_X0 hown hK hP 0 rfl rfl 3 (by decide) w_2 (fun _ h9 => h9) rfl dX0_fall_134 ?_
                  refine lv_iload hx hb dX0_fall_137 (lv_at hl 6 rfl) ?_
                  refine zv_iald hx hb hK hP 3 0 rfl rfl (by omega) dX0_fall_139 ?_
                  refine lv_istore (lv' := [(5, .int (zI (ri ax))), (4, .int (zI (pk (zu su ax 0)))), (8, .int (zI (su ax))), (7, .int (zI (ti ax))), (0, .ref h0), (2, .int (zI mz)), (3, .int (zI lod)), (6, .int (zI stp))]) hx hb dX0_fall_140 hl (by decide) rfl (fun ls hl => ?_)
                  refine lv_goto (tgt := 239) hx hb dX0_fall_142 (by decide) ?_
                  refine zv_iinc (k := 7) (a := stp) (n := 1) (lv' := [(6, .int (zI (stp + 1))), (5, .int (zI (ri ax))), (4, .int (zI (pk (zu su ax 0)))), (8, .int (zI (su ax))), (7, .int (zI (ti ax))), (0, .ref h0), (2, .int (zI mz)), (3, .int (zI lod))]) hx hb dX0_fall_239 hl rfl (by decide) rfl (fun ls hl => ?_)
                  refine lv_goto (tgt := 14) hx hb dX0_fall_242 (by decide) ?_
                  exact ih14 (zu su ax 0) (ri ax) (stp + 1) (by omega) (by omega) (by omega) (by first | exact q3 | (exfalso; omega) | (exact sOk_up hh q3 (k := ax) (by omega) (by omega) (by omega) (by omega) (by omega) (by omega))) (by first | (exfalso; omega) | (rw [if_pos rfl]; rw [if_pos (by omega)] at q4; exact q4) | (rw [if_neg (by omega), show (9 - (stp + 1)).toNat = (8 - stp).toNat by omega, q4]; (repeat' split) <;> first | rfl | (exfalso; omega))) _ (lv_sub hl [5, 6, 7, 2, 1, 0] rfl)
                · refine lv_aload_n hx hb dX0_fall_123 rfl (lv_at hl 3 rfl) ?_
                  refine va_get (D := (dC, dI)) (ci := 0) (v := .ref h2) (C := RX0) (T := TX0) (N := 5) hx hb hts in_X0 hown hK hP 0 rfl rfl 2 (by decide) w_3 (fun _ h9 => h9) rfl dX0_fall_124 ?_
                  refine lv_iload hx hb dX0_fall_127 (lv_at hl 6 rfl) ?_
                  refine zv_iald hx hb hK hP 2 0 rfl rfl (by omega) dX0_fall_129 ?_
                  refine lv_goto (tgt := 140) hx hb dX0_fall_130 (by decide) ?_
                  refine lv_istore (lv' := [(5, .int (zI (le ax))), (4, .int (zI (pk (zu su ax 0)))), (8, .int (zI (su ax))), (7, .int (zI (ti ax))), (0, .ref h0), (2, .int (zI mz)), (3, .int (zI lod)), (6, .int (zI stp))]) hx hb dX0_fall_140 hl (by decide) rfl (fun ls hl => ?_)
                  refine lv_goto (tgt := 239) hx hb dX0_fall_142 (by decide) ?_
                  refine zv_iinc (k := 7) (a := stp) (n := 1) (lv' := [(6, .int (zI (stp + 1))), (5, .int (zI (le ax))), (4, .int (zI (pk (zu su ax 0)))), (8, .int (zI (su ax))), (7, .int (zI (ti ax))), (0, .ref h0), (2, .int (zI mz)), (3, .int (zI lod))]) hx hb dX0_fall_239 hl rfl (by decide) rfl (fun ls hl => ?_)
                  refine lv_goto (tgt := 14) hx hb dX0_fall_242 (by decide) ?_
                  exact ih14 (zu su ax 0) (le ax) (stp + 1) (by omega) (by omega) (by omega) (by first | exact q3 | (exfalso; omega) | (exact sOk_up hh q3 (k := ax) (by omega) (by omega) (by omega) (by omega) (by omega) (by omega))) (by first | (exfalso; omega) | (rw [if_pos rfl]; rw [if_pos (by omega)] at q4; exact q4) | (rw [if_neg (by omega), show (9 - (stp + 1)).toNat = (8 - stp).toNat by omega, q4]; (repeat' split) <;> first | rfl | (exfalso; omega))) _ (lv_sub hl [5, 6, 7, 2, 1, 0] rfl)
              · refine lv_iload hx hb dX0_fall_103 (lv_at hl 0 rfl) ?_
                refine zv_iconst hx hb dX0_fall_105 ?_
                refine zv_iadd hx hb dX0_fall_106 ?_
                refine lv_goto (tgt := 111) hx hb dX0_fall_107 (by decide) ?_
                refine zv_callRS (As := [.int (zI (pk su)), .int (zI ax), .int (zI ((su ax) + 1))]) (rest := []) ⟨hx, hb, hml, hown, hts⟩ (c_X2_withStand l dC dI cI cB cZ su ax ((su ax) + 1) (by exact sOk_s7 hh q3) (by omega) (by omega)) (va_cwS 3 hts gX0_fall_X2_withStand rfl rfl rfl (by decide +kernel) ⟨by rw [← hRM]; first | decide | (dsimp only; omega), by rw [← hRM]; first | decide | (dsimp only; omega)⟩) hP hK [] rfl [0, 1, 2] rfl zN_bl (zN_go hE) rfl hl.1 rfl (Nat.le_of_ble_eq_true rfl) dX0_fall_111 ⟨Nat.zero_le _, Nat.zero_le _⟩ ?_
                refine lv_istore (lv' := [(4, .int (zI (pk (zu su ax ((su ax) + 1))))), (8, .int (zI (su ax))), (7, .int (zI (ti ax))), (0, .ref h0), (2, .int (zI mz)), (3, .int (zI lod)), (5, .int (zI ax)), (6, .int (zI stp))]) hx hb dX0_fall_114 hl (by decide) rfl (fun ls hl => ?_)
                refine lv_iload hx hb dX0_fall_116 (lv_at hl 1 rfl) ?_
                refine lv_iload hx hb dX0_fall_118 (lv_at hl 2 rfl) ?_
                refine zv_icmp_ge (tgt := 133) hx hb (by omega) (by omega) dX0_fall_120 (by decide) (fun c_120 => ?_) (fun c_120 => ?_)
                · refine lv_aload_n hx hb dX0_fall_133 rfl (lv_at hl 3 rfl) ?_
                  refine va_get (D := (dC, dI)) (ci := 0) (v := .ref h3) (C := RX0) (T := TX0) (N := 5) hx hb hts in_X0 hown hK hP 0 rfl rfl 3 (by decide) w_2 (fun _ h9 => h9) rfl dX0_fall_134 ?_
                  refine lv_iload hx hb dX0_fall_137 (lv_at hl 6 rfl) ?_
                  refine zv_iald hx hb hK hP 3 0 rfl rfl (by omega) dX0_fall_139 ?_
                  refine lv_istore (lv' := [(5, .int (zI (ri ax))), (4, .int (zI (pk (zu su ax ((su ax) + 1))))), (8, .int (zI (su ax))), (7, .int (zI (ti ax))), (0, .ref h0), (2, .int (zI mz)), (3, .int (zI lod)), (6, .int (zI stp))]) hx hb dX0_fall_140 hl (by decide) rfl (fun ls hl => ?_)
                  refine lv_goto (tgt := 239) hx hb dX0_fall_142 (by decide) ?_
                  refine zv_iinc (k := 7) (a := stp) (n := 1) (lv' := [(6, .int (zI (stp + 1))), (5, .int (zI (ri ax))), (4, .int (zI (pk (zu su ax ((su ax) + 1))))), (8, .int (zI (su ax))), (7, .int (zI (ti ax))), (0, .ref h0), (2, .int (zI mz)), (3, .int (zI lod))]) hx hb dX0_fall_239 hl rfl (by decide) rfl (fun ls hl => ?_)
                  refine lv_goto (tgt := 14) hx hb dX0_fall_242 (by decide) ?_
                  exact ih14 (zu su ax ((su ax) + 1)) (ri ax) (stp + 1) (by omega) (by omega) (by omega) (by first | exact q3 | (exfalso; omega) | (exact sOk_up hh q3 (k := ax) (by omega) (by omega) (by omega) (by omega) (by omega) (by omega))) (by first | (exfalso; omega) | (rw [if_pos rfl]; rw [if_pos (by omega)] at q4; exact q4) | (rw [if_neg (by omega), show (9 - (stp + 1)).toNat = (8 - stp).toNat by omega, q4]; (repeat' split) <;> first | rfl | (exfalso; omega))) _ (lv_sub hl [5, 6, 7, 2, 1, 0] rfl)
                · refine lv_aload_n hx hb dX0_fall_123 rfl (lv_at hl 3 rfl) ?_
                  refine va_get (D := (dC, dI)) (ci := 0) (v := .ref h2) (C := RX0) (T := TX0) (N := 5) hx hb hts in_X0 hown hK hP 0 rfl rfl 2 (by decide) w_3 (fun _ h9 => h9) rfl dX0_fall_124 ?_
                  refine lv_iload hx hb dX0_fall_127 (lv_at hl 6 rfl) ?_
                  refine zv_iald hx hb hK hP 2 0 rfl rfl (by omega) dX0_fall_129 ?_
                  refine lv_goto (tgt := 140) hx hb dX0_fall_130 (by decide) ?_
                  refine lv_istore (lv' := [(5, .int (zI (le ax))), (4, .int (zI (pk (zu su ax ((su ax) + 1))))), (8, .int (zI (su ax))), (7, .int (zI (ti ax))), (0, .ref h0), (2, .int (zI mz)), (3, .int (zI lod)), (6, .int (zI stp))]) hx hb dX0_fall_140 hl (by decide) rfl (fun ls hl => ?_)
                  refine lv_goto (tgt := 239) hx hb dX0_fall_142 (by decide) ?_
                  refine zv_iinc (k := 7) (a := stp) (n := 1) (lv' := [(6, .int (zI (stp + 1))), (5, .int (zI (le ax))), (4, .int (zI (pk (zu su ax ((su ax) + 1))))), (8, .int (zI (su ax))), (7, .int (zI (ti ax))), (0, .ref h0), (2, .int (zI mz)), (3, .int (zI lod))]) hx hb dX0_fall_239 hl rfl (by decide) rfl (fun ls hl => ?_)
                  refine lv_goto (tgt := 14) hx hb dX0_fall_242 (by decide) ?_
                  exact ih14 (zu su ax ((su ax) + 1)) (le ax) (stp + 1) (by omega) (by omega) (by omega) (by first | exact q3 | (exfalso; omega) | (exact sOk_up hh q3 (k := ax) (by omega) (by omega) (by omega) (by omega) (by omega) (by omega))) (by first | (exfalso; omega) | (rw [if_pos rfl]; rw [if_pos (by omega)] at q4; exact q4) | (rw [if_neg (by omega), show (9 - (stp + 1)).toNat = (8 - stp).toNat by omega, q4]; (repeat' split) <;> first | rfl | (exfalso; omega))) _ (lv_sub hl [5, 6, 7, 2, 1, 0] rfl)
            · refine zv_tableIn (k := 2) (tgt := 145) hx hb (by omega) c_61 (by omega) dX0_fall_61 rfl (by decide) ?_
              rw [if_neg (show ¬ so ax = 0 by omega), if_neg (show ¬ so ax = 1 by omega), if_pos c_61] at q4
              have y2 := z2 (by omega)
              have y3 := z3 (by omega)
              refine lv_iload_n hx hb dX0_fall_145 rfl (lv_at hl 3 rfl) ?_
              refine zv_if_ne (tgt := 159) hx hb (by omega) dX0_fall_146 (by decide) (fun c_146 => ?_) (fun c_146 => ?_)
              · refine lv_aload_n hx hb dX0_fall_159 rfl (lv_at hl 2 rfl) ?_
                refine va_get (D := (dC, dI)) (ci := 0) (v := .ref h3) (C := RX0) (T := TX0) (N := 5) hx hb hts in_X0 hown hK hP 0 rfl rfl 3 (by decide) w_2 (fun _ h9 => h9) rfl dX0_fall_160 ?_
                refine lv_iload hx hb dX0_fall_163 (lv_at hl 6 rfl) ?_
                refine zv_iald hx hb hK hP 3 0 rfl rfl (by omega) dX0_fall_165 ?_
                refine lv_istore (lv' := [(5, .int (zI (ri ax))), (8, .int (zI (su ax))), (7, .int (zI (ti ax))), (0, .ref h0), (2, .int (zI mz)), (3, .int (zI lod)), (4, .int (zI (pk su))), (6, .int (zI stp))]) hx hb dX0_fall_166 hl (by decide) rfl (fun ls hl => ?_)
                refine lv_goto (tgt := 239) hx hb dX0_fall_168 (by decide) ?_
                refine zv_iinc (k := 7) (a := stp) (n := 1) (lv' := [(6, .int (zI (stp + 1))), (5, .int (zI (ri ax))), (8, .int (zI (su ax))), (7, .int (zI (ti ax))), (0, .ref h0), (2, .int (zI mz)), (3, .int (zI lod)), (4, .int (zI (pk su)))]) hx hb dX0_fall_239 hl rfl (by decide) rfl (fun ls hl => ?_)
                refine lv_goto (tgt := 14) hx hb dX0_fall_242 (by decide) ?_
                exact ih14 su (ri ax) (stp + 1) (by omega) (by omega) (by omega) (by first | exact q3 | (exfalso; omega) | (exact sOk_up hh q3 (k := ax) (by omega) (by omega) (by omega) (by omega) (by omega) (by omega))) (by first | (exfalso; omega) | (rw [if_pos rfl]; rw [if_pos (by omega)] at q4; exact q4) | (rw [if_neg (by omega), show (9 - (stp + 1)).toNat = (8 - stp).toNat by omega, q4]; (repeat' split) <;> first | rfl | (exfalso; omega))) _ (lv_sub hl [4, 5, 6, 7, 1, 0] rfl)
              · refine lv_aload_n hx hb dX0_fall_149 rfl (lv_at hl 2 rfl) ?_
                refine va_get (D := (dC, dI)) (ci := 0) (v := .ref h2) (C := RX0) (T := TX0) (N := 5) hx hb hts in_X0 hown hK hP 0 rfl rfl 2 (by decide) w_3 (fun _ h9 => h9) rfl dX0_fall_150 ?_
                refine lv_iload hx hb dX0_fall_153 (lv_at hl 6 rfl) ?_
                refine zv_iald hx hb hK hP 2 0 rfl rfl (by omega) dX0_fall_155 ?_
                refine lv_goto (tgt := 166) hx hb dX0_fall_156 (by decide) ?_
                refine lv_istore (lv' := [(5, .int (zI (le ax))), (8, .int (zI (su ax))), (7, .int (zI (ti ax))), (0, .ref h0), (2, .int (zI mz)), (3, .int (zI lod)), (4, .int (zI (pk su))), (6, .int (zI stp))]) hx hb dX0_fall_166 hl (by decide) rfl (fun ls hl => ?_)
                refine lv_goto (tgt := 239) hx hb dX0_fall_168 (by decide) ?_
                refine zv_iinc (k := 7) (a := stp) (n := 1) (lv' := [(6, .int (zI (stp + 1))), (5, .int (zI (le ax))), (8, .int (zI (su ax))), (7, .int (zI (ti ax))), (0, .ref h0), (2, .int (zI mz)), (3, .int (zI lod)), (4, .int (zI (pk su)))]) hx hb dX0_fall_239 hl rfl (by decide) rfl (fun ls hl => ?_)
                refine lv_goto (tgt := 14) hx hb dX0_fall_242 (by decide) ?_
                exact ih14 su (le ax) (stp + 1) (by omega) (by omega) (by omega) (by first | exact q3 | (exfalso; omega) | (exact sOk_up hh q3 (k := ax) (by omega) (by omega) (by omega) (by omega) (by omega) (by omega))) (by first | (exfalso; omega) | (rw [if_pos rfl]; rw [if_pos (by omega)] at q4; exact q4) | (rw [if_neg (by omega), show (9 - (stp + 1)).toNat = (8 - stp).toNat by omega, q4]; (repeat' split) <;> first | rfl | (exfalso; omega))) _ (lv_sub hl [4, 5, 6, 7, 1, 0] rfl)
            · refine zv_tableIn (k := 3) (tgt := 171) hx hb (by omega) c_61 (by omega) dX0_fall_61 rfl (by decide) ?_
              rw [if_neg (show ¬ so ax = 0 by omega), if_neg (show ¬ so ax = 1 by omega), if_neg (show ¬ so ax = 2 by omega)] at q4
              have y2 := z2 (by omega)
              have y4 := z5 c_61
              have y5 := (z10.2.1 (by omega)).2.1 c_61
              refine lv_iload hx hb dX0_fall_171 (lv_at hl 0 rfl) ?_
              refine zv_iconst hx hb dX0_fall_173 ?_
              refine zv_iadd hx hb dX0_fall_174 ?_
              refine lv_iload hx hb dX0_fall_175 (lv_at hl 1 rfl) ?_
              refine zv_icmp_lt (tgt := 184) hx hb (by omega) (by omega) dX0_fall_177 (by decide) (fun c_177 => ?_) (fun c_177 => ?_)
              · refine zv_iconst hx hb dX0_fall_184 ?_
                refine lv_istore (lv' := [(9, .int (zI 0)), (8, .int (zI (su ax))), (7, .int (zI (ti ax))), (0, .ref h0), (2, .int (zI mz)), (3, .int (zI lod)), (4, .int (zI (pk su))), (5, .int (zI ax)), (6, .int (zI stp))]) hx hb dX0_fall_185 hl (by decide) rfl (fun ls hl => ?_)
                refine lv_iload hx hb dX0_fall_187 (lv_at hl 6 rfl) ?_
                refine lv_iload hx hb dX0_fall_189 (lv_at hl 7 rfl) ?_
                refine lv_iload hx hb dX0_fall_191 (lv_at hl 0 rfl) ?_
                refine zv_if_eq (tgt := 200) hx hb (by omega) dX0_fall_193 (by decide) (fun c_193 => ?_) (fun c_193 => ?_)
                · refine lv_iload hx hb dX0_fall_200 (lv_at hl 1 rfl) ?_
                  refine zv_iconst hx hb dX0_fall_202 ?_
                  refine zv_iadd hx hb dX0_fall_203 ?_
                  refine zv_callRS (As := [.int (zI (pk su)), .int (zI ax), .int (zI ((su ax) + 1))]) (rest := []) ⟨hx, hb, hml, hown, hts⟩ (c_X2_withStand l dC dI cI cB cZ su ax ((su ax) + 1) (by exact sOk_s7 hh q3) (by omega) (by omega)) (va_cwS 3 hts gX0_fall_X2_withStand rfl rfl rfl (by decide +kernel) ⟨by rw [← hRM]; first | decide | (dsimp only; omega), by rw [← hRM]; first | decide | (dsimp only; omega)⟩) hP hK [] rfl [0, 1, 2] rfl zN_bl (zN_go hE) rfl hl.1 rfl (Nat.le_of_ble_eq_true rfl) dX0_fall_204 ⟨Nat.zero_le _, Nat.zero_le _⟩ ?_
                  refine lv_istore (lv' := [(4, .int (zI (pk (zu su ax ((su ax) + 1))))), (9, .int (zI 0)), (8, .int (zI (su ax))), (7, .int (zI (ti ax))), (0, .ref h0), (2, .int (zI mz)), (3, .int (zI lod)), (5, .int (zI ax)), (6, .int (zI stp))]) hx hb dX0_fall_207 hl (by decide) rfl (fun ls hl => ?_)
                  refine lv_iload hx hb dX0_fall_209 (lv_at hl 1 rfl) ?_
                  refine zv_if_eq (tgt := 224) hx hb (by omega) dX0_fall_211 (by decide) (fun c_211 => ?_) (fun c_211 => ?_)
                  · refine zv_bipush hx hb dX0_fall_224 (by decide +kernel) ?_
                    refine lv_istore (lv' := [(5, .int (zI ((-9)))), (4, .int (zI (pk (zu su ax ((su ax) + 1))))), (9, .int (zI 0)), (8, .int (zI (su ax))), (7, .int (zI (ti ax))), (0, .ref h0), (2, .int (zI mz)), (3, .int (zI lod)), (6, .int (zI stp))]) hx hb dX0_fall_226 hl (by decide) rfl (fun ls hl => ?_)
                    refine lv_goto (tgt := 239) hx hb dX0_fall_228 (by decide) ?_
                    refine zv_iinc (k := 8) (a := stp) (n := 1) (lv' := [(6, .int (zI (stp + 1))), (5, .int (zI ((-9)))), (4, .int (zI (pk (zu su ax ((su ax) + 1))))), (9, .int (zI 0)), (8, .int (zI (su ax))), (7, .int (zI (ti ax))), (0, .ref h0), (2, .int (zI mz)), (3, .int (zI lod))]) hx hb dX0_fall_239 hl rfl (by decide) rfl (fun ls hl => ?_)
                    refine lv_goto (tgt := 14) hx hb dX0_fall_242 (by decide) ?_
                    exact ih14 (zu su ax ((su ax) + 1)) (-9) (stp + 1) (by omega) (by omega) (by omega) (by first | exact q3 | (exfalso; omega) | (exact sOk_up hh q3 (k := ax) (by omega) (by omega) (by omega) (by omega) (by omega) (by omega))) (by first | (exfalso; omega) | (rw [if_pos rfl]; rw [if_pos (by omega)] at q4; exact q4) | (rw [if_neg (by omega), show (9 - (stp + 1)).toNat = (8 - stp).toNat by omega, q4]; (repeat' split) <;> first | rfl | (exfalso; omega))) _ (lv_sub hl [6, 7, 8, 2, 1, 0] rfl)
                  · refine lv_aload_n hx hb dX0_fall_214 rfl (lv_at hl 4 rfl) ?_
                    refine va_get (D := (dC, dI)) (ci := 0) (v := .ref h2) (C := RX0) (T := TX0) (N := 5) hx hb hts in_X0 hown hK hP 0 rfl rfl 2 (by decide) w_3 (fun _ h9 => h9) rfl dX0_fall_215 ?_
                    refine lv_iload hx hb dX0_fall_218 (lv_at hl 7 rfl) ?_
                    refine zv_iald hx hb hK hP 2 0 rfl rfl (by omega) dX0_fall_220 ?_
                    refine lv_goto (tgt := 226) hx hb dX0_fall_221 (by decide) ?_
                    refine lv_istore (lv' := [(5, .int (zI (le ax))), (4, .int (zI (pk (zu su ax ((su ax) + 1))))), (9, .int (zI 0)), (8, .int (zI (su ax))), (7, .int (zI (ti ax))), (0, .ref h0), (2, .int (zI mz)), (3, .int (zI lod)), (6, .int (zI stp))]) hx hb dX0_fall_226 hl (by decide) rfl (fun ls hl => ?_)
                    refine lv_goto (tgt := 239) hx hb dX0_fall_228 (by decide) ?_
                    refine zv_iinc (k := 8) (a := stp) (n := 1) (lv' := [(6, .int (zI (stp + 1))), (5, .int (zI (le ax))), (4, .int (zI (pk (zu su ax ((su ax) + 1))))), (9, .int (zI 0)), (8, .int (zI (su ax))), (7, .int (zI (ti ax))), (0, .ref h0), (2, .int (zI mz)), (3, .int (zI lod))]) hx hb dX0_fall_239 hl rfl (by decide) rfl (fun ls hl => ?_)
                    refine lv_goto (tgt := 14) hx hb dX0_fall_242 (by decide) ?_
                    exact ih14 (zu su ax ((su ax) + 1)) (le ax) (stp + 1) (by omega) (by omega) (by omega) (by first | exact q3 | (exfalso; omega) | (exact sOk_up hh q3 (k := ax) (by omega) (by omega) (by omega) (by omega) (by omega) (by omega))) (by first | (exfalso; omega) | (rw [if_pos rfl]; rw [if_pos (by omega)] at q4; exact q4) | (rw [if_neg (by omega), show (9 - (stp + 1)).toNat = (8 - stp).toNat by omega, q4]; (repeat' split) <;> first | rfl | (exfalso; omega))) _ (lv_sub hl [6, 7, 8, 2, 1, 0] rfl)
                · refine zv_iconst hx hb dX0_fall_196 ?_
                  refine lv_goto (tgt := 204) hx hb dX0_fall_197 (by decide) ?_
                  refine zv_callRS (As := [.int (zI (pk su)), .int (zI ax), .int (zI 0)]) (rest := []) ⟨hx, hb, hml, hown, hts⟩ (c_X2_withStand l dC dI cI cB cZ su ax 0 (by exact sOk_s7 hh q3) (by omega) (by omega)) (va_cwS 3 hts gX0_fall_X2_withStand rfl rfl rfl (by decide +kernel) ⟨by rw [← hRM]; first | decide | (dsimp only; omega), by rw [← hRM]; first | decide | (dsimp only; omega)⟩) hP hK [] rfl [0, 1, 2] rfl zN_bl (zN_go hE) rfl hl.1 rfl (Nat.le_of_ble_eq_true rfl) dX0_fall_204 ⟨Nat.zero_le _, Nat.zero_le _⟩ ?_
                  refine lv_istore (lv' := [(4, .int (zI (pk (zu su ax 0)))), (9, .int (zI 0)), (8, .int (zI (su ax))), (7, .int (zI (ti ax))), (0, .ref h0), (2, .int (zI mz)), (3, .int (zI lod)), (5, .int (zI ax)), (6, .int (zI stp))]) hx hb dX0_fall_207 hl (by decide) rfl (fun ls hl => ?_)
                  refine lv_iload hx hb dX0_fall_209 (lv_at hl 1 rfl) ?_
                  refine zv_if_eq (tgt := 224) hx hb (by omega) dX0_fall_211 (by decide) (fun c_211 => ?_) (fun c_211 => ?_)
                  · refine zv_bipush hx hb dX0_fall_224 (by decide +kernel) ?_
                    refine lv_istore (lv' := [(5, .int (zI ((-9)))), (4, .int (zI (pk (zu su ax 0)))), (9, .int (zI 0)), (8, .int (zI (su ax))), (7, .int (zI (ti ax))), (0, .ref h0), (2, .int (zI mz)), (3, .int (zI lod)), (6, .int (zI stp))]) hx hb dX0_fall_226 hl (by decide) rfl (fun ls hl => ?_)
                    refine lv_goto (tgt := 239) hx hb dX0_fall_228 (by decide) ?_
                    refine zv_iinc (k := 8) (a := stp) (n := 1) (lv' := [(6, .int (zI (stp + 1))), (5, .int (zI ((-9)))), (4, .int (zI (pk (zu su ax 0)))), (9, .int (zI 0)), (8, .int (zI (su ax))), (7, .int (zI (ti ax))), (0, .ref h0), (2, .int (zI mz)), (3, .int (zI lod))]) hx hb dX0_fall_239 hl rfl (by decide) rfl (fun ls hl => ?_)
                    refine lv_goto (tgt := 14) hx hb dX0_fall_242 (by decide) ?_
                    exact ih14 (zu su ax 0) (-9) (stp + 1) (by omega) (by omega) (by omega) (by first | exact q3 | (exfalso; omega) | (exact sOk_up hh q3 (k := ax) (by omega) (by omega) (by omega) (by omega) (by omega) (by omega))) (by first | (exfalso; omega) | (rw [if_pos rfl]; rw [if_pos (by omega)] at q4; exact q4) | (rw [if_neg (by omega), show (9 - (stp + 1)).toNat = (8 - stp).toNat by omega, q4]; (repeat' split) <;> first | rfl | (exfalso; omega))) _ (lv_sub hl [6, 7, 8, 2, 1, 0] rfl)
                  · refine lv_aload_n hx hb dX0_fall_214 rfl (lv_at hl 4 rfl) ?_
                    refine va_get (D := (dC, dI)) (ci := 0) (v := .ref h2) (C := RX0) (T := TX0) (N := 5) hx hb hts in_X0 hown hK hP 0 rfl rfl 2 (by decide) w_3 (fun _ h9 => h9) rfl dX0_fall_215 ?_
                    refine lv_iload hx hb dX0_fall_218 (lv_at hl 7 rfl) ?_
                    refine zv_iald hx hb hK hP 2 0 rfl rfl (by omega) dX0_fall_220 ?_
                    refine lv_goto (tgt := 226) hx hb dX0_fall_221 (by decide) ?_
                    refine lv_istore (lv' := [(5, .int (zI (le ax))), (4, .int (zI (pk (zu su ax 0)))), (9, .int (zI 0)), (8, .int (zI (su ax))), (7, .int (zI (ti ax))), (0, .ref h0), (2, .int (zI mz)), (3, .int (zI lod)), (6, .int (zI stp))]) hx hb dX0_fall_226 hl (by decide) rfl (fun ls hl => ?_)
                    refine lv_goto (tgt := 239) hx hb dX0_fall_228 (by decide) ?_
                    refine zv_iinc (k := 8) (a := stp) (n := 1) (lv' := [(6, .int (zI (stp + 1))), (5, .int (zI (le ax))), (4, .int (zI (pk (zu su ax 0)))), (9, .int (zI 0)), (8, .int (zI (su ax))), (7, .int (zI (ti ax))), (0, .ref h0), (2, .int (zI mz)), (3, .int (zI lod))]) hx hb dX0_fall_239 hl rfl (by decide) rfl (fun ls hl => ?_)
                    refine lv_goto (tgt := 14) hx hb dX0_fall_242 (by decide) ?_
                    exact ih14 (zu su ax 0) (le ax) (stp + 1) (by omega) (by omega) (by omega) (by first | exact q3 | (exfalso; omega) | (exact sOk_up hh q3 (k := ax) (by omega) (by omega) (by omega) (by omega) (by omega) (by omega))) (by first | (exfalso; omega) | (rw [if_pos rfl]; rw [if_pos (by omega)] at q4; exact q4) | (rw [if_neg (by omega), show (9 - (stp + 1)).toNat = (8 - stp).toNat by omega, q4]; (repeat' split) <;> first | rfl | (exfalso; omega))) _ (lv_sub hl [6, 7, 8, 2, 1, 0] rfl)
              · refine zv_iconst hx hb dX0_fall_180 ?_
                refine lv_goto (tgt := 185) hx hb dX0_fall_181 (by decide) ?_
                refine lv_istore (lv' := [(9, .int (zI 1)), (8, .int (zI (su ax))), (7, .int (zI (ti ax))), (0, .ref h0), (2, .int (zI mz)), (3, .int (zI lod)), (4, .int (zI (pk su))), (5, .int (zI ax)), (6, .int (zI stp))]) hx hb dX0_fall_185 hl (by decide) rfl (fun ls hl => ?_)
                refine lv_iload hx hb dX0_fall_187 (lv_at hl 6 rfl) ?_
                refine lv_iload hx hb dX0_fall_189 (lv_at hl 7 rfl) ?_
                refine lv_iload hx hb dX0_fall_191 (lv_at hl 0 rfl) ?_
                refine zv_if_eq (tgt := 200) hx hb (by omega) dX0_fall_193 (by decide) (fun c_193 => ?_) (fun c_193 => ?_)
                · refine lv_iload hx hb dX0_fall_200 (lv_at hl 1 rfl) ?_
                  refine zv_iconst hx hb dX0_fall_202 ?_
                  refine zv_iadd hx hb dX0_fall_203 ?_
                  refine zv_callRS (As := [.int (zI (pk su)), .int (zI ax), .int (zI ((su ax) + 1))]) (rest := []) ⟨hx, hb, hml, hown, hts⟩ (c_X2_withStand l dC dI cI cB cZ su ax ((su ax) + 1) (by exact sOk_s7 hh q3) (by omega) (by omega)) (va_cwS 3 hts gX0_fall_X2_withStand rfl rfl rfl (by decide +kernel) ⟨by rw [← hRM]; first | decide | (dsimp only; omega), by rw [← hRM]; first | decide | (dsimp only; omega)⟩) hP hK [] rfl [0, 1, 2] rfl zN_bl (zN_go hE) rfl hl.1 rfl (Nat.le_of_ble_eq_true rfl) dX0_fall_204 ⟨Nat.zero_le _, Nat.zero_le _⟩ ?_
                  refine lv_istore (lv' := [(4, .int (zI (pk (zu su ax ((su ax) + 1))))), (9, .int (zI 1)), (8, .int (zI (su ax))), (7, .int (zI (ti ax))), (0, .ref h0), (2, .int (zI mz)), (3, .int (zI lod)), (5, .int (zI ax)), (6, .int (zI stp))]) hx hb dX0_fall_207 hl (by decide) rfl (fun ls hl => ?_)
                  refine lv_iload hx hb dX0_fall_209 (lv_at hl 1 rfl) ?_
                  refine zv_if_eq (tgt := 224) hx hb (by omega) dX0_fall_211 (by decide) (fun c_211 => ?_) (fun c_211 => ?_)
                  · refine zv_bipush hx hb dX0_fall_224 (by decide +kernel) ?_
                    refine lv_istore (lv' := [(5, .int (zI ((-9)))), (4, .int (zI (pk (zu su ax ((su ax) + 1))))), (9, .int (zI 1)), (8, .int (zI (su ax))), (7, .int (zI (ti ax))), (0, .ref h0), (2, .int (zI mz)), (3, .int (zI lod)), (6, .int (zI stp))]) hx hb dX0_fall_226 hl (by decide) rfl (fun ls hl => ?_)
                    refine lv_goto (tgt := 239) hx hb dX0_fall_228 (by decide) ?_
                    refine zv_iinc (k := 8) (a := stp) (n := 1) (lv' := [(6, .int (zI (stp + 1))), (5, .int (zI ((-9)))), (4, .int (zI (pk (zu su ax ((su ax) + 1))))), (9, .int (zI 1)), (8, .int (zI (su ax))), (7, .int (zI (ti ax))), (0, .ref h0), (2, .int (zI mz)), (3, .int (zI lod))]) hx hb dX0_fall_239 hl rfl (by decide) rfl (fun ls hl => ?_)
                    refine lv_goto (tgt := 14) hx hb dX0_fall_242 (by decide) ?_
                    exact ih14 (zu su ax ((su ax) + 1)) (-9) (stp + 1) (by omega) (by omega) (by omega) (by first | exact q3 | (exfalso; omega) | (exact sOk_up hh q3 (k := ax) (by omega) (by omega) (by omega) (by omega) (by omega) (by omega))) (by first | (exfalso; omega) | (rw [if_pos rfl]; rw [if_pos (by omega)] at q4; exact q4) | (rw [if_neg (by omega), show (9 - (stp + 1)).toNat = (8 - stp).toNat by omega, q4]; (repeat' split) <;> first | rfl | (exfalso; omega))) _ (lv_sub hl [6, 7, 8, 2, 1, 0] rfl)
                  · refine lv_aload_n hx hb dX0_fall_214 rfl (lv_at hl 4 rfl) ?_
                    refine va_get (D := (dC, dI)) (ci := 0) (v := .ref h2) (C := RX0) (T := TX0) (N := 5) hx hb hts in_X0 hown hK hP 0 rfl rfl 2 (by decide) w_3 (fun _ h9 => h9) rfl dX0_fall_215 ?_
                    refine lv_iload hx hb dX0_fall_218 (lv_at hl 7 rfl) ?_
                    refine zv_iald hx hb hK hP 2 0 rfl rfl (by omega) dX0_fall_220 ?_
                    refine lv_goto (tgt := 226) hx hb dX0_fall_221 (by decide) ?_
                    refine lv_istore (lv' := [(5, .int (zI (le ax))), (4, .int (zI (pk (zu su ax ((su ax) + 1))))), (9, .int (zI 1)), (8, .int (zI (su ax))), (7, .int (zI (ti ax))), (0, .ref h0), (2, .int (zI mz)), (3, .int (zI lod)), (6, .int (zI stp))]) hx hb dX0_fall_226 hl (by decide) rfl (fun ls hl => ?_)
                    refine lv_goto (tgt := 239) hx hb dX0_fall_228 (by decide) ?_
                    refine zv_iinc (k := 8) (a := stp) (n := 1) (lv' := [(6, .int (zI (stp + 1))), (5, .int (zI (le ax))), (4, .int (zI (pk (zu su ax ((su ax) + 1))))), (9, .int (zI 1)), (8, .int (zI (su ax))), (7, .int (zI (ti ax))), (0, .ref h0), (2, .int (zI mz)), (3, .int (zI lod))]) hx hb dX0_fall_239 hl rfl (by decide) rfl (fun ls hl => ?_)
                    refine lv_goto (tgt := 14) hx hb dX0_fall_242 (by decide) ?_
                    exact ih14 (zu su ax ((su ax) + 1)) (le ax) (stp + 1) (by omega) (by omega) (by omega) (by first | exact q3 | (exfalso; omega) | (exact sOk_up hh q3 (k := ax) (by omega) (by omega) (by omega) (by omega) (by omega) (by omega))) (by first | (exfalso; omega) | (rw [if_pos rfl]; rw [if_pos (by omega)] at q4; exact q4) | (rw [if_neg (by omega), show (9 - (stp + 1)).toNat = (8 - stp).toNat by omega, q4]; (repeat' split) <;> first | rfl | (exfalso; omega))) _ (lv_sub hl [6, 7, 8, 2, 1, 0] rfl)
                · refine zv_iconst hx hb dX0_fall_196 ?_
                  refine lv_goto (tgt := 204) hx hb dX0_fall_197 (by decide) ?_
                  refine zv_callRS (As := [.int (zI (pk su)), .int (zI ax), .int (zI 0)]) (rest := []) ⟨hx, hb, hml, hown, hts⟩ (c_X2_withStand l dC dI cI cB cZ su ax 0 (by exact sOk_s7 hh q3) (by omega) (by omega)) (va_cwS 3 hts gX0_fall_X2_withStand rfl rfl rfl (by decide +kernel) ⟨by rw [← hRM]; first | decide | (dsimp only; omega), by rw [← hRM]; first | decide | (dsimp only; omega)⟩) hP hK [] rfl [0, 1, 2] rfl zN_bl (zN_go hE) rfl hl.1 rfl (Nat.le_of_ble_eq_true rfl) dX0_fall_204 ⟨Nat.zero_le _, Nat.zero_le _⟩ ?_
                  refine lv_istore (lv' := [(4, .int (zI (pk (zu su ax 0)))), (9, .int (zI 1)), (8, .int (zI (su ax))), (7, .int (zI (ti ax))), (0, .ref h0), (2, .int (zI mz)), (3, .int (zI lod)), (5, .int (zI ax)), (6, .int (zI stp))]) hx hb dX0_fall_207 hl (by decide) rfl (fun ls hl => ?_)
                  refine lv_iload hx hb dX0_fall_209 (lv_at hl 1 rfl) ?_
                  refine zv_if_eq (tgt := 224) hx hb (by omega) dX0_fall_211 (by decide) (fun c_211 => ?_) (fun c_211 => ?_)
                  · refine zv_bipush hx hb dX0_fall_224 (by decide +kernel) ?_
                    refine lv_istore (lv' := [(5, .int (zI ((-9)))), (4, .int (zI (pk (zu su ax 0)))), (9, .int (zI 1)), (8, .int (zI (su ax))), (7, .int (zI (ti ax))), (0, .ref h0), (2, .int (zI mz)), (3, .int (zI lod)), (6, .int (zI stp))]) hx hb dX0_fall_226 hl (by decide) rfl (fun ls hl => ?_)
                    refine lv_goto (tgt := 239) hx hb dX0_fall_228 (by decide) ?_
                    refine zv_iinc (k := 8) (a := stp) (n := 1) (lv' := [(6, .int (zI (stp + 1))), (5, .int (zI ((-9)))), (4, .int (zI (pk (zu su ax 0)))), (9, .int (zI 1)), (8, .int (zI (su ax))), (7, .int (zI (ti ax))), (0, .ref h0), (2, .int (zI mz)), (3, .int (zI lod))]) hx hb dX0_fall_239 hl rfl (by decide) rfl (fun ls hl => ?_)
                    refine lv_goto (tgt := 14) hx hb dX0_fall_242 (by decide) ?_
                    exact ih14 (zu su ax 0) (-9) (stp + 1) (by omega) (by omega) (by omega) (by first | exact q3 | (exfalso; omega) | (exact sOk_up hh q3 (k := ax) (by omega) (by omega) (by omega) (by omega) (by omega) (by omega))) (by first | (exfalso; omega) | (rw [if_pos rfl]; rw [if_pos (by omega)] at q4; exact q4) | (rw [if_neg (by omega), show (9 - (stp + 1)).toNat = (8 - stp).toNat by omega, q4]; (repeat' split) <;> first | rfl | (exfalso; omega))) _ (lv_sub hl [6, 7, 8, 2, 1, 0] rfl)
                  · refine lv_aload_n hx hb dX0_fall_214 rfl (lv_at hl 4 rfl) ?_
                    refine va_get (D := (dC, dI)) (ci := 0) (v := .ref h2) (C := RX0) (T := TX0) (N := 5) hx hb hts in_X0 hown hK hP 0 rfl rfl 2 (by decide) w_3 (fun _ h9 => h9) rfl dX0_fall_215 ?_
                    refine lv_iload hx hb dX0_fall_218 (lv_at hl 7 rfl) ?_
                    refine zv_iald hx hb hK hP 2 0 rfl rfl (by omega) dX0_fall_220 ?_
                    refine lv_goto (tgt := 226) hx hb dX0_fall_221 (by decide) ?_
                    refine lv_istore (lv' := [(5, .int (zI (le ax))), (4, .int (zI (pk (zu su ax 0)))), (9, .int (zI 1)), (8, .int (zI (su ax))), (7, .int (zI (ti ax))), (0, .ref h0), (2, .int (zI mz)), (3, .int (zI lod)), (6, .int (zI stp))]) hx hb dX0_fall_226 hl (by decide) rfl (fun ls hl => ?_)
                    refine lv_goto (tgt := 239) hx hb dX0_fall_228 (by decide) ?_
                    refine zv_iinc (k := 8) (a := stp) (n := 1) (lv' := [(6, .int (zI (stp + 1))), (5, .int (zI (le ax))), (4, .int (zI (pk (zu su ax 0)))), (9, .int (zI 1)), (8, .int (zI (su ax))), (7, .int (zI (ti ax))), (0, .ref h0), (2, .int (zI mz)), (3, .int (zI lod))]) hx hb dX0_fall_239 hl rfl (by decide) rfl (fun ls hl => ?_)
                    refine lv_goto (tgt := 14) hx hb dX0_fall_242 (by decide) ?_
                    exact ih14 (zu su ax 0) (le ax) (stp + 1) (by omega) (by omega) (by omega) (by first | exact q3 | (exfalso; omega) | (exact sOk_up hh q3 (k := ax) (by omega) (by omega) (by omega) (by omega) (by omega) (by omega))) (by first | (exfalso; omega) | (rw [if_pos rfl]; rw [if_pos (by omega)] at q4; exact q4) | (rw [if_neg (by omega), show (9 - (stp + 1)).toNat = (8 - stp).toNat by omega, q4]; (repeat' split) <;> first | rfl | (exfalso; omega))) _ (lv_sub hl [6, 7, 8, 2, 1, 0] rfl)
            · refine zv_tableOut (tgt := 231) hx hb (by omega) c_61 dX0_fall_61 (by decide) ?_
              rw [if_pos (show so ax = 0 by omega)] at q4
              refine lv_iload hx hb dX0_fall_231 (lv_at hl 5 rfl) ?_
              refine lv_iload hx hb dX0_fall_233 (lv_at hl 6 rfl) ?_
              refine zv_callRS (As := [.int (zI (pk su)), .int (zI ax)]) (rest := []) ⟨hx, hb, hml, hown, hts⟩ (c_X2_outcome l dC dI cI cB cZ su ax (by exact sOk_s7 hh q3) (by omega)) (va_cwS 2 hts gX0_fall_X2_outcome rfl rfl rfl (by decide +kernel) ⟨by rw [← hRM]; first | decide | (dsimp only; omega), by rw [← hRM]; first | decide | (dsimp only; omega)⟩) hP hK [] rfl [0, 1, 2] rfl zN_bl (zN_go hE) rfl hl.1 rfl (Nat.le_of_ble_eq_true rfl) dX0_fall_235 ⟨Nat.zero_le _, Nat.zero_le _⟩ ?_
              rw [← hQQ]
              exact zr_iret hx hb hr hlocks (congrArg zI (show oc (pk su) ax = oc (pk (goS so le ri ti lod mz 9 st (n - 1)).1) (goS so le ri ti lod mz 9 st (n - 1)).2 from by first | (exfalso; omega) | ((rw [← hRR, q4]) <;> first | rfl | (rw [if_pos (by omega)])))) dX0_fall_238
  refine lv_iload_n hx hb dX0_fall_0 rfl (lv_at hl 1 rfl) ?_
  refine lv_istore (lv' := [(4, .int (zI (pk st))), (0, .ref h0), (1, .int (zI (pk st))), (2, .int (zI mz)), (3, .int (zI lod))]) hx hb dX0_fall_1 hl (by decide) rfl (fun ls hl => ?_)
  refine lv_aload_n hx hb dX0_fall_3 rfl (lv_at hl 1 rfl) ?_
  refine va_get (D := (dC, dI)) (ci := 0) (v := .int (zI n)) (C := RX0) (T := TX0) (N := 5) hx hb hts in_X0 hown hK hP 0 rfl rfl 0 (by decide) w_4 (fun _ h9 => h9) rfl dX0_fall_4 ?_
  refine zv_iconst hx hb dX0_fall_7 ?_
  refine zv_isub hx hb dX0_fall_8 ?_
  refine lv_istore (lv' := [(5, .int (zI (n - 1))), (4, .int (zI (pk st))), (0, .ref h0), (1, .int (zI (pk st))), (2, .int (zI mz)), (3, .int (zI lod))]) hx hb dX0_fall_9 hl (by decide) rfl (fun ls hl => ?_)
  refine zv_iconst hx hb dX0_fall_11 ?_
  refine lv_istore (lv' := [(6, .int (zI 0)), (5, .int (zI (n - 1))), (4, .int (zI (pk st))), (0, .ref h0), (1, .int (zI (pk st))), (2, .int (zI mz)), (3, .int (zI lod))]) hx hb dX0_fall_12 hl (by decide) rfl (fun ls hl => ?_)
  exact cut14 _ st (n - 1) 0 (Nat.lt_succ_self _) (by omega) (by omega) (by exact hs) (by rw [if_neg (by omega)]; exact hRR) _ (lv_sub hl [3, 5, 6, 2, 1, 0] rfl)
set_option maxHeartbeats 4000000 in
set_option maxRecDepth 100000 in
theorem c_X0_standingAfter (l : Launch) (dC : Nat → ClassId) (dI : Nat → Nat → Nat) (cI cB cZ : ClassId) (h0 : Nat) (h1 : Nat) (h2 : Nat) (h3 : Nat) (h4 : Nat) (n : Int) (so : Int → Int) (le : Int → Int) (ri : Int → Int) (ti : Int → Int) (st : Int → Int) (mz : Int) (lod : Int) (hh : hOk n so le ri ti) (hn1 : 1 ≤ n) (hs : sOk n so ti st) (hm : mz = 0 ∨ mz = 1) (hlo : -9 ≤ lod ∧ lod ≤ 8) : MetR l yX0_standingAfter wsX0_standingAfter ({ frames := 2, cells := 0, slots := 0, locals := 52 }) (dC, dI) vwCl (zT cI cB cZ) zN [(h0, .inr (0, [.int (zI n), .ref h1, .ref h2, .ref h3, .ref h4])), (h1, .inl (cI, 9, .inl (zA so))), (h2, .inl (cI, 9, .inl (zA le))), (h3, .inl (cI, 9, .inl (zA ri))), (h4, .inl (cI, 9, .inl (zA ti)))] [.ref h0, .int (zI (pk st)), .int (zI mz), .int (zI lod)] (zI (pk (goS so le ri ti lod mz 9 st (n - 1)).1)) := by
  refine MetR.intro (cc := cX0_standingAfter) (maxL := 4) (ret := (some .int)) (by decide) rfl (Nat.le_of_ble_eq_true rfl) ?_
  intro p e s m args below meth c hx hb hr hlocks hml hts hown hP hK hE ls hl
  have hown : s.vm.findClass RX0 = some m.cls := hown
  have hl : lv_has ls 4 [(0, .ref h0), (1, .int (zI (pk st))), (2, .int (zI mz)), (3, .int (zI lod))] := hl
  generalize hRM : ({ frames := 2, cells := 0, slots := 0, locals := 52 } : Room) = RM
  generalize hQQ : MQ below (vp_Si (fun r => r = zI (pk (goS so le ri ti lod mz 9 st (n - 1)).1))) args s 0 0 (fun _ => False) = QQ
  have hn := hh.1
  obtain ⟨hg1, hg2⟩ := goS_ok hh lod mz 9 st (n - 1) (by omega) (by omega) hs
  refine lv_aload_n hx hb dX0_standingAfter_0 rfl (lv_at hl 0 rfl) ?_
  refine lv_iload_n hx hb dX0_standingAfter_1 rfl (lv_at hl 1 rfl) ?_
  refine lv_iload_n hx hb dX0_standingAfter_2 rfl (lv_at hl 2 rfl) ?_
  refine lv_iload_n hx hb dX0_standingAfter_3 rfl (lv_at hl 3 rfl) ?_
  refine zv_callRV (As := [.int (zI (pk st)), .int (zI mz), .int (zI lod)]) (rest := []) ⟨hx, hb, hml, hown, hts⟩ (c_X0_fall l dC dI cI cB cZ h0 h1 h2 h3 h4 n so le ri ti st mz lod (by exact hh) (by omega) (by exact hs) (by omega) (by omega)) (cwV 3 hts gX0_standingAfter_X0_fall rfl rfl rfl (by decide +kernel) ⟨by rw [← hRM]; first | decide | (dsimp only; omega), by rw [← hRM]; first | decide | (dsimp only; omega)⟩) hP hK [0, 1, 2, 3, 4] rfl [0, 1, 2] rfl zN_bl (zN_go hE) (q0 := 0) rfl rfl rfl rfl hl.1 rfl (Nat.le_of_ble_eq_true rfl) dX0_standingAfter_4 ⟨Nat.zero_le _, Nat.zero_le _⟩ ?_
  refine zv_callRS (As := [.int (zI (oc (pk (goS so le ri ti lod mz 9 st (n - 1)).1) (goS so le ri ti lod mz 9 st (n - 1)).2))]) (rest := []) ⟨hx, hb, hml, hown, hts⟩ (c_X2_standingOf l dC dI cI cB cZ ((goS so le ri ti lod mz 9 st (n - 1)).1) ((goS so le ri ti lod mz 9 st (n - 1)).2) (by exact sOk_s7 hh hg1) (by omega)) (va_cwS 1 hts gX0_standingAfter_X2_standingOf rfl rfl rfl (by decide +kernel) ⟨by rw [← hRM]; first | decide | (dsimp only; omega), by rw [← hRM]; first | decide | (dsimp only; omega)⟩) hP hK [] rfl [0, 1, 2] rfl zN_bl (zN_go hE) rfl hl.1 rfl (Nat.le_of_ble_eq_true rfl) dX0_standingAfter_7 ⟨Nat.zero_le _, Nat.zero_le _⟩ ?_
  rw [← hQQ]
  exact zr_iret hx hb hr hlocks (congrArg zI (show pk ((goS so le ri ti lod mz 9 st (n - 1)).1) = pk (goS so le ri ti lod mz 9 st (n - 1)).1 from by first | rfl | omega | exact (bZ_t (by omega)).symm | exact (bZ_f (by omega)).symm)) dX0_standingAfter_10
