/-! reading: bytes, skipping, numbers -/
def sgA (ln : Int) (bys : Int → Int) (k : Int) : Int := if 0 ≤ k ∧ k < ln then bys k else 0
theorem sgA_in {ln : Int} {bys : Int → Int} {k : Int} (h : 0 ≤ k ∧ k < ln) : sgA ln bys k = bys k := if_pos h
def isLe (v : Int) : Bool := decide (97 ≤ v ∧ v ≤ 122)
def isDi (v : Int) : Bool := decide (48 ≤ v ∧ v ≤ 57)
def isBl (v : Int) : Bool := decide (v = 32)
def skp (P : Int → Bool) (ln : Int) (bys : Int → Int) : Nat → Int → Int
  | 0, p => p
  | f + 1, p => if p < ln ∧ P (bys p) = true then skp P ln bys f (p + 1) else p
def skE (P : Int → Bool) (ln : Int) (bys : Int → Int) (p : Int) : Int := skp P ln bys (ln - p).toNat p
theorem skE_s {P : Int → Bool} {ln : Int} {bys : Int → Int} {p : Int} (h : p < ln) (h2 : P (bys p) = true) : skE P ln bys p = skE P ln bys (p + 1) := by
  unfold skE
  rw [show (ln - p).toNat = (ln - (p + 1)).toNat + 1 by omega]
  exact if_pos ⟨h, h2⟩
theorem skE_n {P : Int → Bool} {ln : Int} {bys : Int → Int} {p : Int} (h : ¬ (p < ln ∧ P (bys p) = true)) : skE P ln bys p = p := by
  unfold skE
  cases hf : (ln - p).toNat with
  | zero => rfl
  | succ f => exact if_neg h
theorem skp_r {P : Int → Bool} {ln : Int} {bys : Int → Int} : ∀ (f : Nat) (p : Int), p ≤ ln → p ≤ skp P ln bys f p ∧ skp P ln bys f p ≤ ln
  | 0, p, h => ⟨Int.le_refl _, h⟩
  | f + 1, p, h => by
    show p ≤ (if p < ln ∧ P (bys p) = true then skp P ln bys f (p + 1) else p) ∧ (if p < ln ∧ P (bys p) = true then skp P ln bys f (p + 1) else p) ≤ ln
    split
    · have := skp_r (P := P) (ln := ln) (bys := bys) f (p + 1) (by omega)
      omega
    · omega
theorem skE_r {P : Int → Bool} {ln : Int} {bys : Int → Int} {p : Int} (h : p ≤ ln) : p ≤ skE P ln bys p ∧ skE P ln bys p ≤ ln := skp_r _ p h
/-- a number from s on: it can stand; its value; its value by its first figures up to q -/
abbrev nmOk (ln : Int) (bys : Int → Int) (p : Int) : Prop := skE isDi ln bys p - p = 1 ∨ (skE isDi ln bys p - p = 2 ∧ bys p ≠ 48)
def nmA (bys : Int → Int) (p q : Int) : Int := if q - p = 0 then 0 else if q - p = 1 then bys p - 48 else 10 * (bys p - 48) + (bys (p + 1) - 48)
theorem nmA_0 {bys : Int → Int} {p : Int} : nmA bys p p = 0 := if_pos (by omega)
theorem nmA_1 {bys : Int → Int} {p : Int} : nmA bys p (p + 1) = bys p - 48 := by
  unfold nmA
  rw [if_neg (by omega), if_pos (by omega)]
theorem nmA_2 {bys : Int → Int} {p q : Int} (h : p + 2 ≤ q) : nmA bys p q = 10 * (bys p - 48) + (bys (p + 1) - 48) := by
  unfold nmA
  rw [if_neg (by omega), if_neg (by omega)]
def nmV (ln : Int) (bys : Int → Int) (p : Int) : Int := nmA bys p (skE isDi ln bys p)
set_option maxHeartbeats 4000000 in
set_option maxRecDepth 100000 in
theorem c_X3_isLetter (l : Launch) (dC : Nat → ClassId) (dI : Nat → Nat → Nat) (cI cB cZ : ClassId) (v : Int) (hv : -2147483648 ≤ v ∧ v ≤ 2147483647) : MetR l yX3_isLetter wsX3_isLetter ({ frames := 0, cells := 0, slots := 0, locals := 0 }) (dC, dI) vwCl (zT cI cB cZ) zN [] [.int (zI v)] (zI (bZ (isLe v = true))) := by
  refine MetR.intro (cc := cX3_isLetter) (maxL := 1) (ret := (some .boolean)) (by decide) rfl (Nat.le_of_ble_eq_true rfl) ?_
  intro p e s m args below meth c hx hb hr hlocks hml hts hown hP hK hE ls hl
  have hown : s.vm.findClass RX3 = some m.cls := hown
  have hl : lv_has ls 1 [(0, .int (zI v))] := hl
  generalize hRM : ({ frames := 0, cells := 0, slots := 0, locals := 0 } : Room) = RM
  generalize hQQ : MQ below (vp_Si (fun r => r = zI (bZ (isLe v = true)))) args s 0 0 (fun _ => False) = QQ
  refine lv_iload_n hx hb dX3_isLetter_0 rfl (lv_at hl 0 rfl) ?_
  refine zv_bipush hx hb dX3_isLetter_1 (by decide +kernel) ?_
  refine zv_icmp_lt (tgt := 16) hx hb (by omega) (by omega) dX3_isLetter_3 (by decide) (fun c_3 => ?_) (fun c_3 => ?_)
  · refine zv_iconst hx hb dX3_isLetter_16 ?_
    rw [← hQQ]
    exact zr_zret hx hb hr hlocks (by first | exact z_nar_bool | rfl) (congrArg zI (show 0 = bZ (isLe v = true) from by first | exact (bZ_t (decide_eq_true (by omega))).symm | exact (bZ_f (fun q => by have := of_decide_eq_true q; omega)).symm)) dX3_isLetter_17
  · refine lv_iload_n hx hb dX3_isLetter_6 rfl (lv_at hl 0 rfl) ?_
    refine zv_bipush hx hb dX3_isLetter_7 (by decide +kernel) ?_
    refine zv_icmp_gt (tgt := 16) hx hb (by omega) (by omega) dX3_isLetter_9 (by decide) (fun c_9 => ?_) (fun c_9 => ?_)
    · refine zv_iconst hx hb dX3_isLetter_16 ?_
      rw [← hQQ]
      exact zr_zret hx hb hr hlocks (by first | exact z_nar_bool | rfl) (congrArg zI (show 0 = bZ (isLe v = true) from by first | exact (bZ_t (decide_eq_true (by omega))).symm | exact (bZ_f (fun q => by have := of_decide_eq_true q; omega)).symm)) dX3_isLetter_17
    · refine zv_iconst hx hb dX3_isLetter_12 ?_
      refine lv_goto (tgt := 17) hx hb dX3_isLetter_13 (by decide) ?_
      rw [← hQQ]
      exact zr_zret hx hb hr hlocks (by first | exact z_nar_bool | rfl) (congrArg zI (show 1 = bZ (isLe v = true) from by first | exact (bZ_t (decide_eq_true (by omega))).symm | exact (bZ_f (fun q => by have := of_decide_eq_true q; omega)).symm)) dX3_isLetter_17
set_option maxHeartbeats 4000000 in
set_option maxRecDepth 100000 in
theorem c_X3_isDigit (l : Launch) (dC : Nat → ClassId) (dI : Nat → Nat → Nat) (cI cB cZ : ClassId) (v : Int) (hv : -2147483648 ≤ v ∧ v ≤ 2147483647) : MetR l yX3_isDigit wsX3_isDigit ({ frames := 0, cells := 0, slots := 0, locals := 0 }) (dC, dI) vwCl (zT cI cB cZ) zN [] [.int (zI v)] (zI (bZ (isDi v = true))) := by
  refine MetR.intro (cc := cX3_isDigit) (maxL := 1) (ret := (some .boolean)) (by decide) rfl (Nat.le_of_ble_eq_true rfl) ?_
  intro p e s m args below meth c hx hb hr hlocks hml hts hown hP hK hE ls hl
  have hown : s.vm.findClass RX3 = some m.cls := hown
  have hl : lv_has ls 1 [(0, .int (zI v))] := hl
  generalize hRM : ({ frames := 0, cells := 0, slots := 0, locals := 0 } : Room) = RM
  generalize hQQ : MQ below (vp_Si (fun r => r = zI (bZ (isDi v = true)))) args s 0 0 (fun _ => False) = QQ
  refine lv_iload_n hx hb dX3_isDigit_0 rfl (lv_at hl 0 rfl) ?_
  refine zv_bipush hx hb dX3_isDigit_1 (by decide +kernel) ?_
  refine zv_icmp_lt (tgt := 16) hx hb (by omega) (by omega) dX3_isDigit_3 (by decide) (fun c_3 => ?_) (fun c_3 => ?_)
  · refine zv_iconst hx hb dX3_isDigit_16 ?_
    rw [← hQQ]
    exact zr_zret hx hb hr hlocks (by first | exact z_nar_bool | rfl) (congrArg zI (show 0 = bZ (isDi v = true) from by first | exact (bZ_t (decide_eq_true (by omega))).symm | exact (bZ_f (fun q => by have := of_decide_eq_true q; omega)).symm)) dX3_isDigit_17
  · refine lv_iload_n hx hb dX3_isDigit_6 rfl (lv_at hl 0 rfl) ?_
    refine zv_bipush hx hb dX3_isDigit_7 (by decide +kernel) ?_
    refine zv_icmp_gt (tgt := 16) hx hb (by omega) (by omega) dX3_isDigit_9 (by decide) (fun c_9 => ?_) (fun c_9 => ?_)
    · refine zv_iconst hx hb dX3_isDigit_16 ?_
      rw [← hQQ]
      exact zr_zret hx hb hr hlocks (by first | exact z_nar_bool | rfl) (congrArg zI (show 0 = bZ (isDi v = true) from by first | exact (bZ_t (decide_eq_true (by omega))).symm | exact (bZ_f (fun q => by have := of_decide_eq_true q; omega)).symm)) dX3_isDigit_17
    · refine zv_iconst hx hb dX3_isDigit_12 ?_
      refine lv_goto (tgt := 17) hx hb dX3_isDigit_13 (by decide) ?_
      rw [← hQQ]
      exact zr_zret hx hb hr hlocks (by first | exact z_nar_bool | rfl) (congrArg zI (show 1 = bZ (isDi v = true) from by first | exact (bZ_t (decide_eq_true (by omega))).symm | exact (bZ_f (fun q => by have := of_decide_eq_true q; omega)).symm)) dX3_isDigit_17
set_option maxHeartbeats 4000000 in
set_option maxRecDepth 100000 in
theorem c_X3_signAt (l : Launch) (dC : Nat → ClassId) (dI : Nat → Nat → Nat) (cI cB cZ : ClassId) (x0 : Nat) (x1 : Nat) (ln : Int) (pl : Int) (ft : Int) (tk : Int) (tS : Int) (tv : Int) (bys : Int → Int) (k : Int) (hln : 0 ≤ ln ∧ ln ≤ 200) (hk : -2147483648 ≤ k ∧ k ≤ 2147483647) : MetR l yX3_signAt wsX3_signAt ({ frames := 0, cells := 0, slots := 0, locals := 0 }) (dC, dI) vwCl (zT cI cB cZ) zN [(x0, .inr (2, [.int (zI ln), .ref x1, .int (zI pl), .int (zI ft), .int (zI tk), .int (zI tS), .int (zI tv)])), (x1, .inl (cI, 200, .inl (zA bys)))] [.ref x0, .int (zI k)] (zI (sgA ln bys k)) := by
  refine MetR.intro (cc := cX3_signAt) (maxL := 2) (ret := (some .int)) (by decide) rfl (Nat.le_of_ble_eq_true rfl) ?_
  intro p e s m args below meth c hx hb hr hlocks hml hts hown hP hK hE ls hl
  have hown : s.vm.findClass RX3 = some m.cls := hown
  have hl : lv_has ls 2 [(0, .ref x0), (1, .int (zI k))] := hl
  generalize hRM : ({ frames := 0, cells := 0, slots := 0, locals := 0 } : Room) = RM
  generalize hQQ : MQ below (vp_Si (fun r => r = zI (sgA ln bys k))) args s 0 0 (fun _ => False) = QQ
  have in_X3 : ∀ w ∈ wsX30, w ∈ wsX3_signAt := by decide +kernel
  have w_0 := hts (.fieldLink RX3 15 "WallMarbles$Text" "length" "I") (by decide +kernel)
  have w_1 := hts (.fieldLink RX3 9 "WallMarbles$Text" "bytes" "[I") (by decide +kernel)
  refine lv_iload_n hx hb dX3_signAt_0 rfl (lv_at hl 1 rfl) ?_
  refine zv_if_lt (tgt := 28) hx hb (by omega) dX3_signAt_1 (by decide) (fun c_1 => ?_) (fun c_1 => ?_)
  · refine zv_iconst hx hb dX3_signAt_28 ?_
    rw [← hQQ]
    exact zr_iret hx hb hr hlocks (congrArg zI (show 0 = sgA ln bys k from by unfold sgA; split <;> first | rfl | omega)) dX3_signAt_29
  · refine lv_iload_n hx hb dX3_signAt_4 rfl (lv_at hl 1 rfl) ?_
    refine lv_aload_n hx hb dX3_signAt_5 rfl (lv_at hl 0 rfl) ?_
    refine va_get (D := (dC, dI)) (ci := 2) (v := .int (zI ln)) (C := RX3) (T := TX3) (N := 7) hx hb hts in_X3 hown hK hP 0 rfl rfl 0 (by decide) w_0 (fun _ h9 => h9) rfl dX3_signAt_6 ?_
    refine zv_icmp_ge (tgt := 28) hx hb (by omega) (by omega) dX3_signAt_9 (by decide) (fun c_9 => ?_) (fun c_9 => ?_)
    · refine zv_iconst hx hb dX3_signAt_28 ?_
      rw [← hQQ]
      exact zr_iret hx hb hr hlocks (congrArg zI (show 0 = sgA ln bys k from by unfold sgA; split <;> first | rfl | omega)) dX3_signAt_29
    · refine lv_iload_n hx hb dX3_signAt_12 rfl (lv_at hl 1 rfl) ?_
      refine zv_sipush hx hb dX3_signAt_13 (by decide +kernel) ?_
      refine zv_icmp_ge (tgt := 28) hx hb (by omega) (by omega) dX3_signAt_16 (by decide) (fun c_16 => ?_) (fun c_16 => ?_)
      · refine zv_iconst hx hb dX3_signAt_28 ?_
        rw [← hQQ]
        exact zr_iret hx hb hr hlocks (congrArg zI (show 0 = sgA ln bys k from by unfold sgA; split <;> first | rfl | omega)) dX3_signAt_29
      · refine lv_aload_n hx hb dX3_signAt_19 rfl (lv_at hl 0 rfl) ?_
        refine va_get (D := (dC, dI)) (ci := 2) (v := .ref x1) (C := RX3) (T := TX3) (N := 7) hx hb hts in_X3 hown hK hP 0 rfl rfl 1 (by decide) w_1 (fun _ h9 => h9) rfl dX3_signAt_20 ?_
        refine lv_iload_n hx hb dX3_signAt_23 rfl (lv_at hl 1 rfl) ?_
        refine zv_iald hx hb hK hP 1 0 rfl rfl (by omega) dX3_signAt_24 ?_
        refine lv_goto (tgt := 29) hx hb dX3_signAt_25 (by decide) ?_
        rw [← hQQ]
        exact zr_iret hx hb hr hlocks (congrArg zI (show bys k = sgA ln bys k from by unfold sgA; split <;> first | rfl | omega)) dX3_signAt_29
set_option maxHeartbeats 4000000 in
set_option maxRecDepth 100000 in
theorem c_X3_append (l : Launch) (dC : Nat → ClassId) (dI : Nat → Nat → Nat) (cI cB cZ : ClassId) (x0 : Nat) (x1 : Nat) (ln : Int) (pl : Int) (ft : Int) (tk : Int) (tS : Int) (tv : Int) (bys : Int → Int) (v : Int) (hln : 0 ≤ ln ∧ ln < 200) : MetW (S := Unit) l yX3_append wsX3_append ({ frames := 0, cells := 0, slots := 0, locals := 0 }) (dC, dI) vwCl (zT cI cB cZ) zN [(x0, .inr (2, [.int (zI ln), .ref x1, .int (zI pl), .int (zI ft), .int (zI tk), .int (zI tS), .int (zI tv)])), (x1, .inl (cI, 200, .inl (zA bys)))] [.ref x0, .int (zI v)] (fun u => none) (fun u => [(x0, .inr (2, [.int (zI (ln + 1)), .ref x1, .int (zI pl), .int (zI ft), .int (zI tk), .int (zI tS), .int (zI tv)])), (x1, .inl (cI, 200, .inl (zA (zu bys ln v))))]) (fun u => True) := by
  refine MetW.intro (cc := cX3_append) (maxL := 2) (ret := none) (by decide) rfl (Nat.le_of_ble_eq_true rfl) ?_
  intro p e s m args below meth c A hx hb hr hlocks hml hts hown hP hK hD hS hA hE ls hl
  have hown : s.vm.findClass RX3 = some m.cls := hown
  have hl : lv_has ls 2 [(0, .ref x0), (1, .int (zI v))] := hl
  generalize hRM : ({ frames := 0, cells := 0, slots := 0, locals := 0 } : Room) = RM
  generalize hQQ : MQ below (QW (S := Unit) (dC, dI) vwCl A (fun u => none) (fun u => [(x0, .inr (2, [.int (zI (ln + 1)), .ref x1, .int (zI pl), .int (zI ft), .int (zI tk), .int (zI tS), .int (zI tv)])), (x1, .inl (cI, 200, .inl (zA (zu bys ln v))))]) (fun u => True)) args s 0 0 A = QQ
  have in_X3 : ∀ w ∈ wsX30, w ∈ wsX3_append := by decide +kernel
  have w_0 := hts (.fieldLink RX3 15 "WallMarbles$Text" "length" "I") (by decide +kernel)
  have w_1 := hts (.fieldLink RX3 9 "WallMarbles$Text" "bytes" "[I") (by decide +kernel)
  refine lv_aload_n hx hb dX3_append_0 rfl (lv_at hl 0 rfl) ?_
  refine va_get (D := (dC, dI)) (ci := 2) (v := .int (zI ln)) (C := RX3) (T := TX3) (N := 7) hx hb hts in_X3 hown hK hP 0 rfl rfl 0 (by decide) w_0 (fun _ h9 => h9) rfl dX3_append_1 ?_
  refine zv_if_lt (tgt := 37) hx hb (by omega) dX3_append_4 (by decide) (fun c_4 => ?_) (fun c_4 => ?_)
  · exfalso; omega
  · refine lv_aload_n hx hb dX3_append_7 rfl (lv_at hl 0 rfl) ?_
    refine va_get (D := (dC, dI)) (ci := 2) (v := .int (zI ln)) (C := RX3) (T := TX3) (N := 7) hx hb hts in_X3 hown hK hP 0 rfl rfl 0 (by decide) w_0 (fun _ h9 => h9) rfl dX3_append_8 ?_
    refine zv_sipush hx hb dX3_append_11 (by decide +kernel) ?_
    refine zv_icmp_ge (tgt := 37) hx hb (by omega) (by omega) dX3_append_14 (by decide) (fun c_14 => ?_) (fun c_14 => ?_)
    · exfalso; omega
    · refine lv_aload_n hx hb dX3_append_17 rfl (lv_at hl 0 rfl) ?_
      refine va_get (D := (dC, dI)) (ci := 2) (v := .ref x1) (C := RX3) (T := TX3) (N := 7) hx hb hts in_X3 hown hK hP 0 rfl rfl 1 (by decide) w_1 (fun _ h9 => h9) rfl dX3_append_18 ?_
      refine lv_aload_n hx hb dX3_append_21 rfl (lv_at hl 0 rfl) ?_
      refine va_get (D := (dC, dI)) (ci := 2) (v := .int (zI ln)) (C := RX3) (T := TX3) (N := 7) hx hb hts in_X3 hown hK hP 0 rfl rfl 0 (by decide) w_0 (fun _ h9 => h9) rfl dX3_append_22 ?_
      refine lv_iload_n hx hb dX3_append_25 rfl (lv_at hl 1 rfl) ?_
      refine zv_iast (ws' := [(x0, .inr (2, [.int (zI ln), .ref x1, .int (zI pl), .int (zI ft), .int (zI tk), .int (zI tS), .int (zI tv)])), (x1, .inl (cI, 200, .inl (zA (zu bys ln v))))]) hx hb hK hP hD hS 1 0 rfl rfl (by omega) rfl dX3_append_26 (fun H locs hP hD hS => ?_)
      refine lv_aload_n hx hb dX3_append_27 rfl (lv_at hl 0 rfl) ?_
      refine lv_dup hx hb dX3_append_28 rfl ?_
      refine va_get (D := (dC, dI)) (ci := 2) (v := .int (zI ln)) (C := RX3) (T := TX3) (N := 7) hx hb hts in_X3 hown hK hP 0 rfl rfl 0 (by decide) w_0 (fun _ h9 => h9) rfl dX3_append_29 ?_
      refine zv_iconst hx hb dX3_append_32 ?_
      refine zv_iadd hx hb dX3_append_33 ?_
      refine va_put (D := (dC, dI)) (ci := 2) (v := .int (zI (ln + 1))) (ty := .int) (C := RX3) (T := TX3) (N := 7) hx hb hts in_X3 tyX3 tyX3_ok nmX3 hown hK hP hD hS 0 rfl rfl 0 (by decide) w_0 (fun _ h9 => h9) rfl (by decide +kernel) rfl rfl (Nat.le_of_ble_eq_true rfl) dX3_append_34 (fun H locs hP hD hS => ?_)
      have hP : va_P (dC, dI) vwCl [(x0, .inr (2, [.int (zI (ln + 1)), .ref x1, .int (zI pl), .int (zI ft), .int (zI tk), .int (zI tS), .int (zI tv)])), (x1, .inl (cI, 200, .inl (zA (zu bys ln v))))] H := hP
      have hD : va_D A [(x0, .inr (2, [.int (zI (ln + 1)), .ref x1, .int (zI pl), .int (zI ft), .int (zI tk), .int (zI tS), .int (zI tv)])), (x1, .inl (cI, 200, .inl (zA (zu bys ln v))))] := hD
      rw [← hQQ]
      exact zw_vret hx hb hr hlocks () rfl trivial hP hS dX3_append_37
set_option maxHeartbeats 4000000 in
set_option maxRecDepth 100000 in
theorem c_X3_readNumber (l : Launch) (dC : Nat → ClassId) (dI : Nat → Nat → Nat) (cI cB cZ : ClassId) (x0 : Nat) (x1 : Nat) (ln : Int) (pl : Int) (ft : Int) (tk : Int) (tS : Int) (bys : Int → Int) (hln : 0 ≤ ln ∧ ln ≤ 200) (hby : ∀ k : Int, 0 ≤ k → k < ln → 0 ≤ bys k ∧ bys k ≤ 255) (hpl : 0 ≤ tS ∧ tS < ln ∧ pl = tS) (hdg : isDi (bys tS) = true) : MetW (S := (Int) × (Int) × (Int)) l yX3_readNumber wsX3_readNumber ({ frames := 1, cells := 0, slots := 0, locals := 21 }) (dC, dI) vwCl (zT cI cB cZ) zN [(x0, .inr (2, [.int (zI ln), .ref x1, .int (zI pl), .int (zI ft), .int (zI tk), .int (zI tS), .int (zI 0)])), (x1, .inl (cI, 200, .inl (zA bys)))] [.ref x0] (fun u => none) (fun u => [(x0, .inr (2, [.int (zI ln), .ref x1, .int (zI u.1), .int (zI ft), .int (zI u.2.1), .int (zI tS), .int (zI u.2.2)])), (x1, .inl (cI, 200, .inl (zA bys)))]) (fun u => (u.1 = skE isDi ln bys tS) ∧ (u.2.1 = if nmOk ln bys tS then 2 else 4) ∧ (nmOk ln bys tS → u.2.2 = nmV ln bys tS)) := by
  refine MetW.intro (cc := cX3_readNumber) (maxL := 3) (ret := none) (by decide) rfl (Nat.le_of_ble_eq_true rfl) ?_
  intro p e s m args below meth c A hx hb hr hlocks hml hts hown hP hK hD hS hA hE ls hl
  have hown : s.vm.findClass RX3 = some m.cls := hown
  have hl : lv_has ls 3 [(0, .ref x0)] := hl
  generalize hRM : ({ frames := 1, cells := 0, slots := 0, locals := 21 } : Room) = RM
  generalize hQQ : MQ below (QW (S := (Int) × (Int) × (Int)) (dC, dI) vwCl A (fun u => none) (fun u => [(x0, .inr (2, [.int (zI ln), .ref x1, .int (zI u.1), .int (zI ft), .int (zI u.2.1), .int (zI tS), .int (zI u.2.2)])), (x1, .inl (cI, 200, .inl (zA bys)))]) (fun u => (u.1 = skE isDi ln bys tS) ∧ (u.2.1 = if nmOk ln bys tS then 2 else 4) ∧ (nmOk ln bys tS → u.2.2 = nmV ln bys tS))) args s 0 0 A = QQ
  have in_X3 : ∀ w ∈ wsX30, w ∈ wsX3_readNumber := by decide +kernel
  have w_0 := hts (.fieldLink RX3 24 "WallMarbles$Text" "place" "I") (by decide +kernel)
  have w_1 := hts (.fieldLink RX3 15 "WallMarbles$Text" "length" "I") (by decide +kernel)
  have w_2 := hts (.fieldLink RX3 40 "WallMarbles$Text" "tokenStart" "I") (by decide +kernel)
  have w_3 := hts (.fieldLink RX3 33 "WallMarbles$Text" "token" "I") (by decide +kernel)
  have w_4 := hts (.fieldLink RX3 43 "WallMarbles$Text" "value" "I") (by decide +kernel)
  have cut0 : ∀ (nM : Nat) (q : Int) (vv : Int),  ((ln - q).toNat) < nM → (tS ≤ q ∧ q ≤ ln) → (skE isDi ln bys q = skE isDi ln bys tS) → (vv = nmA bys tS q) → ∀ (H : Heap) (locs : List Loc), va_P (dC, dI) vwCl [(x0, .inr (2, [.int (zI ln), .ref x1, .int (zI q), .int (zI ft), .int (zI tk), .int (zI tS), .int (zI vv)])), (x1, .inl (cI, 200, .inl (zA bys)))] H → va_D A [(x0, .inr (2, [.int (zI ln), .ref x1, .int (zI q), .int (zI ft), .int (zI tk), .int (zI tS), .int (zI vv)])), (x1, .inl (cI, 200, .inl (zA bys)))] → va_S A s.heap H locs → ∀ ls : Array Slot, lv_has ls 3 [(0, .ref x0)] → W p l e RM s m args below meth c H locs 0 0 QQ (F0 m 0 ls []) := by
    intro nM
    induction nM with
    | zero => intro q vv hmu; exact absurd hmu (Nat.not_lt_zero _)
    | succ nM ih0 =>
      intro q vv hmu hq hsk hvv H locs hP hD hS ls hl
      refine lv_aload_n hx hb dX3_readNumber_0 rfl (lv_at hl 0 rfl) ?_
      refine va_get (D := (dC, dI)) (ci := 2) (v := .int (zI q)) (C := RX3) (T := TX3) (N := 7) hx hb hts in_X3 hown hK hP 0 rfl rfl 2 (by decide) w_0 (fun _ h9 => h9) rfl dX3_readNumber_1 ?_
      refine lv_aload_n hx hb dX3_readNumber_4 rfl (lv_at hl 0 rfl) ?_
      refine va_get (D := (dC, dI)) (ci := 2) (v := .int (zI ln)) (C := RX3) (T := TX3) (N := 7) hx hb hts in_X3 hown hK hP 0 rfl rfl 0 (by decide) w_1 (fun _ h9 => h9) rfl dX3_readNumber_5 ?_
      refine zv_icmp_ge (tgt := 74) hx hb (by omega) (by omega) dX3_readNumber_8 (by decide) (fun c_8 => ?_) (fun c_8 => ?_)
      · have heq : q = skE isDi ln bys tS := by rw [← hsk]; exact (skE_n (by first | (intro z; omega) | (intro z; exact c_22 z.2))).symm
        have hx1 := skE_s (P := isDi) (ln := ln) (bys := bys) (p := tS) (by omega) hdg
        have hx2 := (skE_r (P := isDi) (ln := ln) (bys := bys) (p := tS + 1) (by omega))
        rw [← hx1] at hx2
        refine lv_aload_n hx hb dX3_readNumber_74 rfl (lv_at hl 0 rfl) ?_
        refine va_get (D := (dC, dI)) (ci := 2) (v := .int (zI q)) (C := RX3) (T := TX3) (N := 7) hx hb hts in_X3 hown hK hP 0 rfl rfl 2 (by decide) w_0 (fun _ h9 => h9) rfl dX3_readNumber_75 ?_
        refine lv_aload_n hx hb dX3_readNumber_78 rfl (lv_at hl 0 rfl) ?_
        refine va_get (D := (dC, dI)) (ci := 2) (v := .int (zI tS)) (C := RX3) (T := TX3) (N := 7) hx hb hts in_X3 hown hK hP 0 rfl rfl 5 (by decide) w_2 (fun _ h9 => h9) rfl dX3_readNumber_79 ?_
        refine zv_isub hx hb dX3_readNumber_82 ?_
        refine lv_istore_n (lv' := [(1, .int (zI (q - tS))), (0, .ref x0)]) hx hb dX3_readNumber_83 rfl hl (by decide) rfl (fun ls hl => ?_)
        refine lv_iload_n hx hb dX3_readNumber_84 rfl (lv_at hl 0 rfl) ?_
        refine zv_iconst hx hb dX3_readNumber_85 ?_
        refine zv_icmp_le (tgt := 106) hx hb (by omega) (by omega) dX3_readNumber_86 (by decide) (fun c_86 => ?_) (fun c_86 => ?_)
        · refine zv_iconst hx hb dX3_readNumber_106 ?_
          refine lv_istore_n (lv' := [(2, .int (zI 0)), (1, .int (zI (q - tS))), (0, .ref x0)]) hx hb dX3_readNumber_107 rfl hl (by decide) rfl (fun ls hl => ?_)
          refine lv_aload_n hx hb dX3_readNumber_108 rfl (lv_at hl 2 rfl) ?_
          refine lv_iload_n hx hb dX3_readNumber_109 rfl (lv_at hl 1 rfl) ?_
          refine zv_iconst hx hb dX3_readNumber_110 ?_
          refine zv_icmp_gt (tgt := 118) hx hb (by omega) (by omega) dX3_readNumber_111 (by decide) (fun c_111 => ?_) (fun c_111 => ?_)
          · refine zv_iconst hx hb dX3_readNumber_118 ?_
            refine lv_goto (tgt := 123) hx hb dX3_readNumber_119 (by decide) ?_
            refine va_put (D := (dC, dI)) (ci := 2) (v := .int (zI 4)) (ty := .int) (C := RX3) (T := TX3) (N := 7) hx hb hts in_X3 tyX3 tyX3_ok nmX3 hown hK hP hD hS 0 rfl rfl 4 (by decide) w_3 (fun _ h9 => h9) rfl (by decide +kernel) rfl rfl (Nat.le_of_ble_eq_true rfl) dX3_readNumber_123 (fun H locs hP hD hS => ?_)
            have hP : va_P (dC, dI) vwCl [(x0, .inr (2, [.int (zI ln), .ref x1, .int (zI q), .int (zI ft), .int (zI 4), .int (zI tS), .int (zI vv)])), (x1, .inl (cI, 200, .inl (zA bys)))] H := hP
            have hD : va_D A [(x0, .inr (2, [.int (zI ln), .ref x1, .int (zI q), .int (zI ft), .int (zI 4), .int (zI tS), .int (zI vv)])), (x1, .inl (cI, 200, .inl (zA bys)))] := hD
            rw [← hQQ]
            exact zw_vret hx hb hr hlocks (q, 4, vv) rfl ⟨(by exact heq), (by rw [← heq] at hx2; unfold nmOk; rw [← heq]; (repeat' split) <;> first | rfl | omega), (by intro hok; rw [hvv]; unfold nmV; rw [← heq])⟩ hP hS dX3_readNumber_126
          · refine lv_iload_n hx hb dX3_readNumber_114 rfl (lv_at hl 0 rfl) ?_
            refine zv_if_eq (tgt := 122) hx hb (by omega) dX3_readNumber_115 (by decide) (fun c_115 => ?_) (fun c_115 => ?_)
            · refine zv_iconst hx hb dX3_readNumber_122 ?_
              refine va_put (D := (dC, dI)) (ci := 2) (v := .int (zI 2)) (ty := .int) (C := RX3) (T := TX3) (N := 7) hx hb hts in_X3 tyX3 tyX3_ok nmX3 hown hK hP hD hS 0 rfl rfl 4 (by decide) w_3 (fun _ h9 => h9) rfl (by decide +kernel) rfl rfl (Nat.le_of_ble_eq_true rfl) dX3_readNumber_123 (fun H locs hP hD hS => ?_)
              have hP : va_P (dC, dI) vwCl [(x0, .inr (2, [.int (zI ln), .ref x1, .int (zI q), .int (zI ft), .int (zI 2), .int (zI tS), .int (zI vv)])), (x1, .inl (cI, 200, .inl (zA bys)))] H := hP
              have hD : va_D A [(x0, .inr (2, [.int (zI ln), .ref x1, .int (zI q), .int (zI ft), .int (zI 2), .int (zI tS), .int (zI vv)])), (x1, .inl (cI, 200, .inl (zA bys)))] := hD
              rw [← hQQ]
              exact zw_vret hx hb hr hlocks (q, 2, vv) rfl ⟨(by exact heq), (by rw [← heq] at hx2; unfold nmOk; rw [← heq]; (repeat' split) <;> first | rfl | omega), (by intro hok; rw [hvv]; unfold nmV; rw [← heq])⟩ hP hS dX3_readNumber_126
            · refine zv_iconst hx hb dX3_readNumber_118 ?_
              refine lv_goto (tgt := 123) hx hb dX3_readNumber_119 (by decide) ?_
              refine va_put (D := (dC, dI)) (ci := 2) (v := .int (zI 4)) (ty := .int) (C := RX3) (T := TX3) (N := 7) hx hb hts in_X3 tyX3 tyX3_ok nmX3 hown hK hP hD hS 0 rfl rfl 4 (by decide) w_3 (fun _ h9 => h9) rfl (by decide +kernel) rfl rfl (Nat.le_of_ble_eq_true rfl) dX3_readNumber_123 (fun H locs hP hD hS => ?_)
              have hP : va_P (dC, dI) vwCl [(x0, .inr (2, [.int (zI ln), .ref x1, .int (zI q), .int (zI ft), .int (zI 4), .int (zI tS), .int (zI vv)])), (x1, .inl (cI, 200, .inl (zA bys)))] H := hP
              have hD : va_D A [(x0, .inr (2, [.int (zI ln), .ref x1, .int (zI q), .int (zI ft), .int (zI 4), .int (zI tS), .int (zI vv)])), (x1, .inl (cI, 200, .inl (zA bys)))] := hD
              rw [← hQQ]
              exact zw_vret hx hb hr hlocks (q, 4, vv) rfl ⟨(by exact heq), (by rw [← heq] at hx2; unfold nmOk; rw [← heq]; (repeat' split) <;> first | rfl | omega), (by intro hok; rw [hvv]; unfold nmV; rw [← heq])⟩ hP hS dX3_readNumber_126
        · refine lv_aload_n hx hb dX3_readNumber_89 rfl (lv_at hl 1 rfl) ?_
          refine lv_aload_n hx hb dX3_readNumber_90 rfl (lv_at hl 1 rfl) ?_
          refine va_get (D := (dC, dI)) (ci := 2) (v := .int (zI tS)) (C := RX3) (T := TX3) (N := 7) hx hb hts in_X3 hown hK hP 0 rfl rfl 5 (by decide) w_2 (fun _ h9 => h9) rfl dX3_readNumber_91 ?_
          refine zv_callRV (As := [.int (zI tS)]) (rest := []) ⟨hx, hb, hml, hown, hts⟩ (c_X3_signAt l dC dI cI cB cZ x0 x1 ln q ft tk tS vv bys tS (by omega) (by omega)) (cwV 1 hts gX3_readNumber_X3_signAt rfl rfl rfl (by decide +kernel) ⟨by rw [← hRM]; first | decide | (dsimp only; omega), by rw [← hRM]; first | decide | (dsimp only; omega)⟩) hP hK [0, 1] rfl [0, 1, 2] rfl zN_bl (zN_go hE) (q0 := 0) rfl rfl rfl rfl hl.1 rfl (Nat.le_of_ble_eq_true rfl) dX3_readNumber_94 ⟨Nat.zero_le _, Nat.zero_le _⟩ ?_
          rw [show (sgA ln bys tS) = bys tS from sgA_in (by omega)]
          have ys := hby tS (by omega) (by omega)
          refine zv_bipush hx hb dX3_readNumber_97 (by decide +kernel) ?_
          refine zv_icmp_ne (tgt := 106) hx hb (by omega) (by omega) dX3_readNumber_99 (by decide) (fun c_99 => ?_) (fun c_99 => ?_)
          · refine zv_iconst hx hb dX3_readNumber_106 ?_
            refine lv_istore_n (lv' := [(2, .int (zI 0)), (1, .int (zI (q - tS))), (0, .ref x0)]) hx hb dX3_readNumber_107 rfl hl (by decide) rfl (fun ls hl => ?_)
            refine lv_aload_n hx hb dX3_readNumber_108 rfl (lv_at hl 2 rfl) ?_
            refine lv_iload_n hx hb dX3_readNumber_109 rfl (lv_at hl 1 rfl) ?_
            refine zv_iconst hx hb dX3_readNumber_110 ?_
            refine zv_icmp_gt (tgt := 118) hx hb (by omega) (by omega) dX3_readNumber_111 (by decide) (fun c_111 => ?_) (fun c_111 => ?_)
            · refine zv_iconst hx hb dX3_readNumber_118 ?_
              refine lv_goto (tgt := 123) hx hb dX3_readNumber_119 (by decide) ?_
              refine va_put (D := (dC, dI)) (ci := 2) (v := .int (zI 4)) (ty := .int) (C := RX3) (T := TX3) (N := 7) hx hb hts in_X3 tyX3 tyX3_ok nmX3 hown hK hP hD hS 0 rfl rfl 4 (by decide) w_3 (fun _ h9 => h9) rfl (by decide +kernel) rfl rfl (Nat.le_of_ble_eq_true rfl) dX3_readNumber_123 (fun H locs hP hD hS => ?_)
              have hP : va_P (dC, dI) vwCl [(x0, .inr (2, [.int (zI ln), .ref x1, .int (zI q), .int (zI ft), .int (zI 4), .int (zI tS), .int (zI vv)])), (x1, .inl (cI, 200, .inl (zA bys)))] H := hP
              have hD : va_D A [(x0, .inr (2, [.int (zI ln), .ref x1, .int (zI q), .int (zI ft), .int (zI 4), .int (zI tS), .int (zI vv)])), (x1, .inl (cI, 200, .inl (zA bys)))] := hD
              rw [← hQQ]
              exact zw_vret hx hb hr hlocks (q, 4, vv) rfl ⟨(by exact heq), (by rw [← heq] at hx2; unfold nmOk; rw [← heq]; (repeat' split) <;> first | rfl | omega), (by intro hok; rw [hvv]; unfold nmV; rw [← heq])⟩ hP hS dX3_readNumber_126
            · refine lv_iload_n hx hb dX3_readNumber_114 rfl (lv_at hl 0 rfl) ?_
              refine zv_if_eq (tgt := 122) hx hb (by omega) dX3_readNumber_115 (by decide) (fun c_115 => ?_) (fun c_115 => ?_)
              · refine zv_iconst hx hb dX3_readNumber_122 ?_
                refine va_put (D := (dC, dI)) (ci := 2) (v := .int (zI 2)) (ty := .int) (C := RX3) (T := TX3) (N := 7) hx hb hts in_X3 tyX3 tyX3_ok nmX3 hown hK hP hD hS 0 rfl rfl 4 (by decide) w_3 (fun _ h9 => h9) rfl (by decide +kernel) rfl rfl (Nat.le_of_ble_eq_true rfl) dX3_readNumber_123 (fun H locs hP hD hS => ?_)
                have hP : va_P (dC, dI) vwCl [(x0, .inr (2, [.int (zI ln), .ref x1, .int (zI q), .int (zI ft), .int (zI 2), .int (zI tS), .int (zI vv)])), (x1, .inl (cI, 200, .inl (zA bys)))] H := hP
                have hD : va_D A [(x0, .inr (2, [.int (zI ln), .ref x1, .int (zI q), .int (zI ft), .int (zI 2), .int (zI tS), .int (zI vv)])), (x1, .inl (cI, 200, .inl (zA bys)))] := hD
                rw [← hQQ]
                exact zw_vret hx hb hr hlocks (q, 2, vv) rfl ⟨(by exact heq), (by rw [← heq] at hx2; unfold nmOk; rw [← heq]; (repeat' split) <;> first | rfl | omega), (by intro hok; rw [hvv]; unfold nmV; rw [← heq])⟩ hP hS dX3_readNumber_126
              · refine zv_iconst hx hb dX3_readNumber_118 ?_
                refine lv_goto (tgt := 123) hx hb dX3_readNumber_119 (by decide) ?_
                refine va_put (D := (dC, dI)) (ci := 2) (v := .int (zI 4)) (ty := .int) (C := RX3) (T := TX3) (N := 7) hx hb hts in_X3 tyX3 tyX3_ok nmX3 hown hK hP hD hS 0 rfl rfl 4 (by decide) w_3 (fun _ h9 => h9) rfl (by decide +kernel) rfl rfl (Nat.le_of_ble_eq_true rfl) dX3_readNumber_123 (fun H locs hP hD hS => ?_)
                have hP : va_P (dC, dI) vwCl [(x0, .inr (2, [.int (zI ln), .ref x1, .int (zI q), .int (zI ft), .int (zI 4), .int (zI tS), .int (zI vv)])), (x1, .inl (cI, 200, .inl (zA bys)))] H := hP
                have hD : va_D A [(x0, .inr (2, [.int (zI ln), .ref x1, .int (zI q), .int (zI ft), .int (zI 4), .int (zI tS), .int (zI vv)])), (x1, .inl (cI, 200, .inl (zA bys)))] := hD
                rw [← hQQ]
                exact zw_vret hx hb hr hlocks (q, 4, vv) rfl ⟨(by exact heq), (by rw [← heq] at hx2; unfold nmOk; rw [← heq]; (repeat' split) <;> first | rfl | omega), (by intro hok; rw [hvv]; unfold nmV; rw [← heq])⟩ hP hS dX3_readNumber_126
          · refine zv_iconst hx hb dX3_readNumber_102 ?_
            refine lv_goto (tgt := 107) hx hb dX3_readNumber_103 (by decide) ?_
            refine lv_istore_n (lv' := [(2, .int (zI 1)), (1, .int (zI (q - tS))), (0, .ref x0)]) hx hb dX3_readNumber_107 rfl hl (by decide) rfl (fun ls hl => ?_)
            refine lv_aload_n hx hb dX3_readNumber_108 rfl (lv_at hl 2 rfl) ?_
            refine lv_iload_n hx hb dX3_readNumber_109 rfl (lv_at hl 1 rfl) ?_
            refine zv_iconst hx hb dX3_readNumber_110 ?_
            refine zv_icmp_gt (tgt := 118) hx hb (by omega) (by omega) dX3_readNumber_111 (by decide) (fun c_111 => ?_) (fun c_111 => ?_)
            · refine zv_iconst hx hb dX3_readNumber_118 ?_
              refine lv_goto (tgt := 123) hx hb dX3_readNumber_119 (by decide) ?_
              refine va_put (D := (dC, dI)) (ci := 2) (v := .int (zI 4)) (ty := .int) (C := RX3) (T := TX3) (N := 7) hx hb hts in_X3 tyX3 tyX3_ok nmX3 hown hK hP hD hS 0 rfl rfl 4 (by decide) w_3 (fun _ h9 => h9) rfl (by decide +kernel) rfl rfl (Nat.le_of_ble_eq_true rfl) dX3_readNumber_123 (fun H locs hP hD hS => ?_)
              have hP : va_P (dC, dI) vwCl [(x0, .inr (2, [.int (zI ln), .ref x1, .int (zI q), .int (zI ft), .int (zI 4), .int (zI tS), .int (zI vv)])), (x1, .inl (cI, 200, .inl (zA bys)))] H := hP
              have hD : va_D A [(x0, .inr (2, [.int (zI ln), .ref x1, .int (zI q), .int (zI ft), .int (zI 4), .int (zI tS), .int (zI vv)])), (x1, .inl (cI, 200, .inl (zA bys)))] := hD
              rw [← hQQ]
              exact zw_vret hx hb hr hlocks (q, 4, vv) rfl ⟨(by exact heq), (by rw [← heq] at hx2; unfold nmOk; rw [← heq]; (repeat' split) <;> first | rfl | omega), (by intro hok; rw [hvv]; unfold nmV; rw [← heq])⟩ hP hS dX3_readNumber_126
            · refine lv_iload_n hx hb dX3_readNumber_114 rfl (lv_at hl 0 rfl) ?_
              refine zv_if_eq (tgt := 122) hx hb (by omega) dX3_readNumber_115 (by decide) (fun c_115 => ?_) (fun c_115 => ?_)
              · refine zv_iconst hx hb dX3_readNumber_122 ?_
                refine va_put (D := (dC, dI)) (ci := 2) (v := .int (zI 2)) (ty := .int) (C := RX3) (T := TX3) (N := 7) hx hb hts in_X3 tyX3 tyX3_ok nmX3 hown hK hP hD hS 0 rfl rfl 4 (by decide) w_3 (fun _ h9 => h9) rfl (by decide +kernel) rfl rfl (Nat.le_of_ble_eq_true rfl) dX3_readNumber_123 (fun H locs hP hD hS => ?_)
                have hP : va_P (dC, dI) vwCl [(x0, .inr (2, [.int (zI ln), .ref x1, .int (zI q), .int (zI ft), .int (zI 2), .int (zI tS), .int (zI vv)])), (x1, .inl (cI, 200, .inl (zA bys)))] H := hP
                have hD : va_D A [(x0, .inr (2, [.int (zI ln), .ref x1, .int (zI q), .int (zI ft), .int (zI 2), .int (zI tS), .int (zI vv)])), (x1, .inl (cI, 200, .inl (zA bys)))] := hD
                rw [← hQQ]
                exact zw_vret hx hb hr hlocks (q, 2, vv) rfl ⟨(by exact heq), (by rw [← heq] at hx2; unfold nmOk; rw [← heq]; (repeat' split) <;> first | rfl | omega), (by intro hok; rw [hvv]; unfold nmV; rw [← heq])⟩ hP hS dX3_readNumber_126
              · refine zv_iconst hx hb dX3_readNumber_118 ?_
                refine lv_goto (tgt := 123) hx hb dX3_readNumber_119 (by decide) ?_
                refine va_put (D := (dC, dI)) (ci := 2) (v := .int (zI 4)) (ty := .int) (C := RX3) (T := TX3) (N := 7) hx hb hts in_X3 tyX3 tyX3_ok nmX3 hown hK hP hD hS 0 rfl rfl 4 (by decide) w_3 (fun _ h9 => h9) rfl (by decide +kernel) rfl rfl (Nat.le_of_ble_eq_true rfl) dX3_readNumber_123 (fun H locs hP hD hS => ?_)
                have hP : va_P (dC, dI) vwCl [(x0, .inr (2, [.int (zI ln), .ref x1, .int (zI q), .int (zI ft), .int (zI 4), .int (zI tS), .int (zI vv)])), (x1, .inl (cI, 200, .inl (zA bys)))] H := hP
                have hD : va_D A [(x0, .inr (2, [.int (zI ln), .ref x1, .int (zI q), .int (zI ft), .int (zI 4), .int (zI tS), .int (zI vv)])), (x1, .inl (cI, 200, .inl (zA bys)))] := hD
                rw [← hQQ]
                exact zw_vret hx hb hr hlocks (q, 4, vv) rfl ⟨(by exact heq), (by rw [← heq] at hx2; unfold nmOk; rw [← heq]; (repeat' split) <;> first | rfl | omega), (by intro hok; rw [hvv]; unfold nmV; rw [← heq])⟩ hP hS dX3_readNumber_126
      · refine lv_aload_n hx hb dX3_readNumber_11 rfl (lv_at hl 0 rfl) ?_
        refine lv_aload_n hx hb dX3_readNumber_12 rfl (lv_at hl 0 rfl) ?_
        refine va_get (D := (dC, dI)) (ci := 2) (v := .int (zI q)) (C := RX3) (T := TX3) (N := 7) hx hb hts in_X3 hown hK hP 0 rfl rfl 2 (by decide) w_0 (fun _ h9 => h9) rfl dX3_readNumber_13 ?_
        have yq := hby q (by omega) (by omega)
        refine zv_callRV (As := [.int (zI q)]) (rest := []) ⟨hx, hb, hml, hown, hts⟩ (c_X3_signAt l dC dI cI cB cZ x0 x1 ln q ft tk tS vv bys q (by omega) (by omega)) (cwV 1 hts gX3_readNumber_X3_signAt rfl rfl rfl (by decide +kernel) ⟨by rw [← hRM]; first | decide | (dsimp only; omega), by rw [← hRM]; first | decide | (dsimp only; omega)⟩) hP hK [0, 1] rfl [0, 1, 2] rfl zN_bl (zN_go hE) (q0 := 0) rfl rfl rfl rfl hl.1 rfl (Nat.le_of_ble_eq_true rfl) dX3_readNumber_16 ⟨Nat.zero_le _, Nat.zero_le _⟩ ?_
        rw [show (sgA ln bys q) = bys q from sgA_in (by omega)]
        refine zv_callRS (As := [.int (zI (bys q))]) (rest := []) ⟨hx, hb, hml, hown, hts⟩ (c_X3_isDigit l dC dI cI cB cZ (bys q) (by omega)) (va_cwS 1 hts gX3_readNumber_X3_isDigit rfl rfl rfl (by decide +kernel) ⟨by rw [← hRM]; first | decide | (dsimp only; omega), by rw [← hRM]; first | decide | (dsimp only; omega)⟩) hP hK [] rfl [0, 1, 2] rfl zN_bl (zN_go hE) rfl hl.1 rfl (Nat.le_of_ble_eq_true rfl) dX3_readNumber_19 ⟨Nat.zero_le _, Nat.zero_le _⟩ ?_
        refine zv_ifeq_b (tgt := 74) hx hb dX3_readNumber_22 (by decide) (fun c_22 => ?_) (fun c_22 => ?_)
        · have heq : q = skE isDi ln bys tS := by rw [← hsk]; exact (skE_n (by first | (intro z; omega) | (intro z; exact c_22 z.2))).symm
          have hx1 := skE_s (P := isDi) (ln := ln) (bys := bys) (p := tS) (by omega) hdg
          have hx2 := (skE_r (P := isDi) (ln := ln) (bys := bys) (p := tS + 1) (by omega))
          rw [← hx1] at hx2
          refine lv_aload_n hx hb dX3_readNumber_74 rfl (lv_at hl 0 rfl) ?_
          refine va_get (D := (dC, dI)) (ci := 2) (v := .int (zI q)) (C := RX3) (T := TX3) (N := 7) hx hb hts in_X3 hown hK hP 0 rfl rfl 2 (by decide) w_0 (fun _ h9 => h9) rfl dX3_readNumber_75 ?_
          refine lv_aload_n hx hb dX3_readNumber_78 rfl (lv_at hl 0 rfl) ?_
          refine va_get (D := (dC, dI)) (ci := 2) (v := .int (zI tS)) (C := RX3) (T := TX3) (N := 7) hx hb hts in_X3 hown hK hP 0 rfl rfl 5 (by decide) w_2 (fun _ h9 => h9) rfl dX3_readNumber_79 ?_
          refine zv_isub hx hb dX3_readNumber_82 ?_
          refine lv_istore_n (lv' := [(1, .int (zI (q - tS))), (0, .ref x0)]) hx hb dX3_readNumber_83 rfl hl (by decide) rfl (fun ls hl => ?_)
          refine lv_iload_n hx hb dX3_readNumber_84 rfl (lv_at hl 0 rfl) ?_
          refine zv_iconst hx hb dX3_readNumber_85 ?_
          refine zv_icmp_le (tgt := 106) hx hb (by omega) (by omega) dX3_readNumber_86 (by decide) (fun c_86 => ?_) (fun c_86 => ?_)
          · refine zv_iconst hx hb dX3_readNumber_106 ?_
            refine lv_istore_n (lv' := [(2, .int (zI 0)), (1, .int (zI (q - tS))), (0, .ref x0)]) hx hb dX3_readNumber_107 rfl hl (by decide) rfl (fun ls hl => ?_)
            refine lv_aload_n hx hb dX3_readNumber_108 rfl (lv_at hl 2 rfl) ?_
            refine lv_iload_n hx hb dX3_readNumber_109 rfl (lv_at hl 1 rfl) ?_
            refine zv_iconst hx hb dX3_readNumber_110 ?_
            refine zv_icmp_gt (tgt := 118) hx hb (by omega) (by omega) dX3_readNumber_111 (by decide) (fun c_111 => ?_) (fun c_111 => ?_)
            · refine zv_iconst hx hb dX3_readNumber_118 ?_
              refine lv_goto (tgt := 123) hx hb dX3_readNumber_119 (by decide) ?_
              refine va_put (D := (dC, dI)) (ci := 2) (v := .int (zI 4)) (ty := .int) (C := RX3) (T := TX3) (N := 7) hx hb hts in_X3 tyX3 tyX3_ok nmX3 hown hK hP hD hS 0 rfl rfl 4 (by decide) w_3 (fun _ h9 => h9) rfl (by decide +kernel) rfl rfl (Nat.le_of_ble_eq_true rfl) dX3_readNumber_123 (fun H locs hP hD hS => ?_)
              have hP : va_P (dC, dI) vwCl [(x0, .inr (2, [.int (zI ln), .ref x1, .int (zI q), .int (zI ft), .int (zI 4), .int (zI tS), .int (zI vv)])), (x1, .inl (cI, 200, .inl (zA bys)))] H := hP
              have hD : va_D A [(x0, .inr (2, [.int (zI ln), .ref x1, .int (zI q), .int (zI ft), .int (zI 4), .int (zI tS), .int (zI vv)])), (x1, .inl (cI, 200, .inl (zA bys)))] := hD
              rw [← hQQ]
              exact zw_vret hx hb hr hlocks (q, 4, vv) rfl ⟨(by exact heq), (by rw [← heq] at hx2; unfold nmOk; rw [← heq]; (repeat' split) <;> first | rfl | omega), (by intro hok; rw [hvv]; unfold nmV; rw [← heq])⟩ hP hS dX3_readNumber_126
            · refine lv_iload_n hx hb dX3_readNumber_114 rfl (lv_at hl 0 rfl) ?_
              refine zv_if_eq (tgt := 122) hx hb (by omega) dX3_readNumber_115 (by decide) (fun c_115 => ?_) (fun c_115 => ?_)
              · refine zv_iconst hx hb dX3_readNumber_122 ?_
                refine va_put (D := (dC, dI)) (ci := 2) (v := .int (zI 2)) (ty := .int) (C := RX3) (T := TX3) (N := 7) hx hb hts in_X3 tyX3 tyX3_ok nmX3 hown hK hP hD hS 0 rfl rfl 4 (by decide) w_3 (fun _ h9 => h9) rfl (by decide +kernel) rfl rfl (Nat.le_of_ble_eq_true rfl) dX3_readNumber_123 (fun H locs hP hD hS => ?_)
                have hP : va_P (dC, dI) vwCl [(x0, .inr (2, [.int (zI ln), .ref x1, .int (zI q), .int (zI ft), .int (zI 2), .int (zI tS), .int (zI vv)])), (x1, .inl (cI, 200, .inl (zA bys)))] H := hP
                have hD : va_D A [(x0, .inr (2, [.int (zI ln), .ref x1, .int (zI q), .int (zI ft), .int (zI 2), .int (zI tS), .int (zI vv)])), (x1, .inl (cI, 200, .inl (zA bys)))] := hD
                rw [← hQQ]
                exact zw_vret hx hb hr hlocks (q, 2, vv) rfl ⟨(by exact heq), (by rw [← heq] at hx2; unfold nmOk; rw [← heq]; (repeat' split) <;> first | rfl | omega), (by intro hok; rw [hvv]; unfold nmV; rw [← heq])⟩ hP hS dX3_readNumber_126
              · refine zv_iconst hx hb dX3_readNumber_118 ?_
                refine lv_goto (tgt := 123) hx hb dX3_readNumber_119 (by decide) ?_
                refine va_put (D := (dC, dI)) (ci := 2) (v := .int (zI 4)) (ty := .int) (C := RX3) (T := TX3) (N := 7) hx hb hts in_X3 tyX3 tyX3_ok nmX3 hown hK hP hD hS 0 rfl rfl 4 (by decide) w_3 (fun _ h9 => h9) rfl (by decide +kernel) rfl rfl (Nat.le_of_ble_eq_true rfl) dX3_readNumber_123 (fun H locs hP hD hS => ?_)
                have hP : va_P (dC, dI) vwCl [(x0, .inr (2, [.int (zI ln), .ref x1, .int (zI q), .int (zI ft), .int (zI 4), .int (zI tS), .int (zI vv)])), (x1, .inl (cI, 200, .inl (zA bys)))] H := hP
                have hD : va_D A [(x0, .inr (2, [.int (zI ln), .ref x1, .int (zI q), .int (zI ft), .int (zI 4), .int (zI tS), .int (zI vv)])), (x1, .inl (cI, 200, .inl (zA bys)))] := hD
                rw [← hQQ]
                exact zw_vret hx hb hr hlocks (q, 4, vv) rfl ⟨(by exact heq), (by rw [← heq] at hx2; unfold nmOk; rw [← heq]; (repeat' split) <;> first | rfl | omega), (by intro hok; rw [hvv]; unfold nmV; rw [← heq])⟩ hP hS dX3_readNumber_126
          · refine lv_aload_n hx hb dX3_readNumber_89 rfl (lv_at hl 1 rfl) ?_
            refine lv_aload_n hx hb dX3_readNumber_90 rfl (lv_at hl 1 rfl) ?_
            refine va_get (D := (dC, dI)) (ci := 2) (v := .int (zI tS)) (C := RX3) (T := TX3) (N := 7) hx hb hts in_X3 hown hK hP 0 rfl rfl 5 (by decide) w_2 (fun _ h9 => h9) rfl dX3_readNumber_91 ?_
            refine zv_callRV (As := [.int (zI tS)]) (rest := []) ⟨hx, hb, hml, hown, hts⟩ (c_X3_signAt l dC dI cI cB cZ x0 x1 ln q ft tk tS vv bys tS (by omega) (by omega)) (cwV 1 hts gX3_readNumber_X3_signAt rfl rfl rfl (by decide +kernel) ⟨by rw [← hRM]; first | decide | (dsimp only; omega), by rw [← hRM]; first | decide | (dsimp only; omega)⟩) hP hK [0, 1] rfl [0, 1, 2] rfl zN_bl (zN_go hE) (q0 := 0) rfl rfl rfl rfl hl.1 rfl (Nat.le_of_ble_eq_true rfl) dX3_readNumber_94 ⟨Nat.zero_le _, Nat.zero_le _⟩ ?_
            rw [show (sgA ln bys tS) = bys tS from sgA_in (by omega)]
            have ys := hby tS (by omega) (by omega)
            refine zv_bipush hx hb dX3_readNumber_97 (by decide +kernel) ?_
            refine zv_icmp_ne (tgt := 106) hx hb (by omega) (by omega) dX3_readNumber_99 (by decide) (fun c_99 => ?_) (fun c_99 => ?_)
            · refine zv_iconst hx hb dX3_readNumber_106 ?_
              refine lv_istore_n (lv' := [(2, .int (zI 0)), (1, .int (zI (q - tS))), (0, .ref x0)]) hx hb dX3_readNumber_107 rfl hl (by decide) rfl (fun ls hl => ?_)
              refine lv_aload_n hx hb dX3_readNumber_108 rfl (lv_at hl 2 rfl) ?_
              refine lv_iload_n hx hb dX3_readNumber_109 rfl (lv_at hl 1 rfl) ?_
              refine zv_iconst hx hb dX3_readNumber_110 ?_
              refine zv_icmp_gt (tgt := 118) hx hb (by omega) (by omega) dX3_readNumber_111 (by decide) (fun c_111 => ?_) (fun c_111 => ?_)
              · refine zv_iconst hx hb dX3_readNumber_118 ?_
                refine lv_goto (tgt := 123) hx hb dX3_readNumber_119 (by decide) ?_
                refine va_put (D := (dC, dI)) (ci := 2) (v := .int (zI 4)) (ty := .int) (C := RX3) (T := TX3) (N := 7) hx hb hts in_X3 tyX3 tyX3_ok nmX3 hown hK hP hD hS 0 rfl rfl 4 (by decide) w_3 (fun _ h9 => h9) rfl (by decide +kernel) rfl rfl (Nat.le_of_ble_eq_true rfl) dX3_readNumber_123 (fun H locs hP hD hS => ?_)
                have hP : va_P (dC, dI) vwCl [(x0, .inr (2, [.int (zI ln), .ref x1, .int (zI q), .int (zI ft), .int (zI 4), .int (zI tS), .int (zI vv)])), (x1, .inl (cI, 200, .inl (zA bys)))] H := hP
                have hD : va_D A [(x0, .inr (2, [.int (zI ln), .ref x1, .int (zI q), .int (zI ft), .int (zI 4), .int (zI tS), .int (zI vv)])), (x1, .inl (cI, 200, .inl (zA bys)))] := hD
                rw [← hQQ]
                exact zw_vret hx hb hr hlocks (q, 4, vv) rfl ⟨(by exact heq), (by rw [← heq] at hx2; unfold nmOk; rw [← heq]; (repeat' split) <;> first | rfl | omega), (by intro hok; rw [hvv]; unfold nmV; rw [← heq])⟩ hP hS dX3_readNumber_126
              · refine lv_iload_n hx hb dX3_readNumber_114 rfl (lv_at hl 0 rfl) ?_
                refine zv_if_eq (tgt := 122) hx hb (by omega) dX3_readNumber_115 (by decide) (fun c_115 => ?_) (fun c_115 => ?_)
                · refine zv_iconst hx hb dX3_readNumber_122 ?_
                  refine va_put (D := (dC, dI)) (ci := 2) (v := .int (zI 2)) (ty := .int) (C := RX3) (T := TX3) (N := 7) hx hb hts in_X3 tyX3 tyX3_ok nmX3 hown hK hP hD hS 0 rfl rfl 4 (by decide) w_3 (fun _ h9 => h9) rfl (by decide +kernel) rfl rfl (Nat.le_of_ble_eq_true rfl) dX3_readNumber_123 (fun H locs hP hD hS => ?_)
                  have hP : va_P (dC, dI) vwCl [(x0, .inr (2, [.int (zI ln), .ref x1, .int (zI q), .int (zI ft), .int (zI 2), .int (zI tS), .int (zI vv)])), (x1, .inl (cI, 200, .inl (zA bys)))] H := hP
                  have hD : va_D A [(x0, .inr (2, [.int (zI ln), .ref x1, .int (zI q), .int (zI ft), .int (zI 2), .int (zI tS), .int (zI vv)])), (x1, .inl (cI, 200, .inl (zA bys)))] := hD
                  rw [← hQQ]
                  exact zw_vret hx hb hr hlocks (q, 2, vv) rfl ⟨(by exact heq), (by rw [← heq] at hx2; unfold nmOk; rw [← heq]; (repeat' split) <;> first | rfl | omega), (by intro hok; rw [hvv]; unfold nmV; rw [← heq])⟩ hP hS dX3_readNumber_126
                · refine zv_iconst hx hb dX3_readNumber_118 ?_
                  refine lv_goto (tgt := 123) hx hb dX3_readNumber_119 (by decide) ?_
                  refine va_put (D := (dC, dI)) (ci := 2) (v := .int (zI 4)) (ty := .int) (C := RX3) (T := TX3) (N := 7) hx hb hts in_X3 tyX3 tyX3_ok nmX3 hown hK hP hD hS 0 rfl rfl 4 (by decide) w_3 (fun _ h9 => h9) rfl (by decide +kernel) rfl rfl (Nat.le_of_ble_eq_true rfl) dX3_readNumber_123 (fun H locs hP hD hS => ?_)
                  have hP : va_P (dC, dI) vwCl [(x0, .inr (2, [.int (zI ln), .ref x1, .int (zI q), .int (zI ft), .int (zI 4), .int (zI tS), .int (zI vv)])), (x1, .inl (cI, 200, .inl (zA bys)))] H := hP
                  have hD : va_D A [(x0, .inr (2, [.int (zI ln), .ref x1, .int (zI q), .int (zI ft), .int (zI 4), .int (zI tS), .int (zI vv)])), (x1, .inl (cI, 200, .inl (zA bys)))] := hD
                  rw [← hQQ]
                  exact zw_vret hx hb hr hlocks (q, 4, vv) rfl ⟨(by exact heq), (by rw [← heq] at hx2; unfold nmOk; rw [← heq]; (repeat' split) <;> first | rfl | omega), (by intro hok; rw [hvv]; unfold nmV; rw [← heq])⟩ hP hS dX3_readNumber_126
            · refine zv_iconst hx hb dX3_readNumber_102 ?_
              refine lv_goto (tgt := 107) hx hb dX3_readNumber_103 (by decide) ?_
              refine lv_istore_n (lv' := [(2, .int (zI 1)), (1, .int (zI (q - tS))), (0, .ref x0)]) hx hb dX3_readNumber_107 rfl hl (by decide) rfl (fun ls hl => ?_)
              refine lv_aload_n hx hb dX3_readNumber_108 rfl (lv_at hl 2 rfl) ?_
              refine lv_iload_n hx hb dX3_readNumber_109 rfl (lv_at hl 1 rfl) ?_
              refine zv_iconst hx hb dX3_readNumber_110 ?_
              refine zv_icmp_gt (tgt := 118) hx hb (by omega) (by omega) dX3_readNumber_111 (by decide) (fun c_111 => ?_) (fun c_111 => ?_)
              · refine zv_iconst hx hb dX3_readNumber_118 ?_
                refine lv_goto (tgt := 123) hx hb dX3_readNumber_119 (by decide) ?_
                refine va_put (D := (dC, dI)) (ci := 2) (v := .int (zI 4)) (ty := .int) (C := RX3) (T := TX3) (N := 7) hx hb hts in_X3 tyX3 tyX3_ok nmX3 hown hK hP hD hS 0 rfl rfl 4 (by decide) w_3 (fun _ h9 => h9) rfl (by decide +kernel) rfl rfl (Nat.le_of_ble_eq_true rfl) dX3_readNumber_123 (fun H locs hP hD hS => ?_)
                have hP : va_P (dC, dI) vwCl [(x0, .inr (2, [.int (zI ln), .ref x1, .int (zI q), .int (zI ft), .int (zI 4), .int (zI tS), .int (zI vv)])), (x1, .inl (cI, 200, .inl (zA bys)))] H := hP
                have hD : va_D A [(x0, .inr (2, [.int (zI ln), .ref x1, .int (zI q), .int (zI ft), .int (zI 4), .int (zI tS), .int (zI vv)])), (x1, .inl (cI, 200, .inl (zA bys)))] := hD
                rw [← hQQ]
                exact zw_vret hx hb hr hlocks (q, 4, vv) rfl ⟨(by exact heq), (by rw [← heq] at hx2; unfold nmOk; rw [← heq]; (repeat' split) <;> first | rfl | omega), (by intro hok; rw [hvv]; unfold nmV; rw [← heq])⟩ hP hS dX3_readNumber_126
              · refine lv_iload_n hx hb dX3_readNumber_114 rfl (lv_at hl 0 rfl) ?_
                refine zv_if_eq (tgt := 122) hx hb (by omega) dX3_readNumber_115 (by decide) (fun c_115 => ?_) (fun c_115 => ?_)
                · refine zv_iconst hx hb dX3_readNumber_122 ?_
                  refine va_put (D := (dC, dI)) (ci := 2) (v := .int (zI 2)) (ty := .int) (C := RX3) (T := TX3) (N := 7) hx hb hts in_X3 tyX3 tyX3_ok nmX3 hown hK hP hD hS 0 rfl rfl 4 (by decide) w_3 (fun _ h9 => h9) rfl (by decide +kernel) rfl rfl (Nat.le_of_ble_eq_true rfl) dX3_readNumber_123 (fun H locs hP hD hS => ?_)
                  have hP : va_P (dC, dI) vwCl [(x0, .inr (2, [.int (zI ln), .ref x1, .int (zI q), .int (zI ft), .int (zI 2), .int (zI tS), .int (zI vv)])), (x1, .inl (cI, 200, .inl (zA bys)))] H := hP
                  have hD : va_D A [(x0, .inr (2, [.int (zI ln), .ref x1, .int (zI q), .int (zI ft), .int (zI 2), .int (zI tS), .int (zI vv)])), (x1, .inl (cI, 200, .inl (zA bys)))] := hD
                  rw [← hQQ]
                  exact zw_vret hx hb hr hlocks (q, 2, vv) rfl ⟨(by exact heq), (by rw [← heq] at hx2; unfold nmOk; rw [← heq]; (repeat' split) <;> first | rfl | omega), (by intro hok; rw [hvv]; unfold nmV; rw [← heq])⟩ hP hS dX3_readNumber_126
                · refine zv_iconst hx hb dX3_readNumber_118 ?_
                  refine lv_goto (tgt := 123) hx hb dX3_readNumber_119 (by decide) ?_
                  refine va_put (D := (dC, dI)) (ci := 2) (v := .int (zI 4)) (ty := .int) (C := RX3) (T := TX3) (N := 7) hx hb hts in_X3 tyX3 tyX3_ok nmX3 hown hK hP hD hS 0 rfl rfl 4 (by decide) w_3 (fun _ h9 => h9) rfl (by decide +kernel) rfl rfl (Nat.le_of_ble_eq_true rfl) dX3_readNumber_123 (fun H locs hP hD hS => ?_)
                  have hP : va_P (dC, dI) vwCl [(x0, .inr (2, [.int (zI ln), .ref x1, .int (zI q), .int (zI ft), .int (zI 4), .int (zI tS), .int (zI vv)])), (x1, .inl (cI, 200, .inl (zA bys)))] H := hP
                  have hD : va_D A [(x0, .inr (2, [.int (zI ln), .ref x1, .int (zI q), .int (zI ft), .int (zI 4), .int (zI tS), .int (zI vv)])), (x1, .inl (cI, 200, .inl (zA bys)))] := hD
                  rw [← hQQ]
                  exact zw_vret hx hb hr hlocks (q, 4, vv) rfl ⟨(by exact heq), (by rw [← heq] at hx2; unfold nmOk; rw [← heq]; (repeat' split) <;> first | rfl | omega), (by intro hok; rw [hvv]; unfold nmV; rw [← heq])⟩ hP hS dX3_readNumber_126
        · refine lv_aload_n hx hb dX3_readNumber_25 rfl (lv_at hl 0 rfl) ?_
          refine va_get (D := (dC, dI)) (ci := 2) (v := .int (zI q)) (C := RX3) (T := TX3) (N := 7) hx hb hts in_X3 hown hK hP 0 rfl rfl 2 (by decide) w_0 (fun _ h9 => h9) rfl dX3_readNumber_26 ?_
          refine lv_aload_n hx hb dX3_readNumber_29 rfl (lv_at hl 0 rfl) ?_
          refine va_get (D := (dC, dI)) (ci := 2) (v := .int (zI tS)) (C := RX3) (T := TX3) (N := 7) hx hb hts in_X3 hown hK hP 0 rfl rfl 5 (by decide) w_2 (fun _ h9 => h9) rfl dX3_readNumber_30 ?_
          refine zv_isub hx hb dX3_readNumber_33 ?_
          refine zv_iconst hx hb dX3_readNumber_34 ?_
          refine zv_icmp_ge (tgt := 61) hx hb (by omega) (by omega) dX3_readNumber_35 (by decide) (fun c_35 => ?_) (fun c_35 => ?_)
          · refine lv_aload_n hx hb dX3_readNumber_61 rfl (lv_at hl 0 rfl) ?_
            refine lv_dup hx hb dX3_readNumber_62 rfl ?_
            refine va_get (D := (dC, dI)) (ci := 2) (v := .int (zI q)) (C := RX3) (T := TX3) (N := 7) hx hb hts in_X3 hown hK hP 0 rfl rfl 2 (by decide) w_0 (fun _ h9 => h9) rfl dX3_readNumber_63 ?_
            refine zv_iconst hx hb dX3_readNumber_66 ?_
            refine zv_iadd hx hb dX3_readNumber_67 ?_
            refine va_put (D := (dC, dI)) (ci := 2) (v := .int (zI (q + 1))) (ty := .int) (C := RX3) (T := TX3) (N := 7) hx hb hts in_X3 tyX3 tyX3_ok nmX3 hown hK hP hD hS 0 rfl rfl 2 (by decide) w_0 (fun _ h9 => h9) rfl (by decide +kernel) rfl rfl (Nat.le_of_ble_eq_true rfl) dX3_readNumber_68 (fun H locs hP hD hS => ?_)
            have hP : va_P (dC, dI) vwCl [(x0, .inr (2, [.int (zI ln), .ref x1, .int (zI (q + 1)), .int (zI ft), .int (zI tk), .int (zI tS), .int (zI vv)])), (x1, .inl (cI, 200, .inl (zA bys)))] H := hP
            have hD : va_D A [(x0, .inr (2, [.int (zI ln), .ref x1, .int (zI (q + 1)), .int (zI ft), .int (zI tk), .int (zI tS), .int (zI vv)])), (x1, .inl (cI, 200, .inl (zA bys)))] := hD
            refine lv_goto (tgt := 0) hx hb dX3_readNumber_71 (by decide) ?_
            exact ih0 (q + 1) vv (by omega) (by omega) (by rw [← hsk]; exact (skE_s (by omega) c_22).symm) (by first | (by_cases z0 : q = tS; (first | (exfalso; omega) | (rw [hvv, z0, nmA_0, nmA_1]; omega)); by_cases z1 : q = tS + 1; (first | (exfalso; omega) | (rw [hvv, z1, nmA_1, nmA_2 (by omega)]; omega)); first | (exfalso; omega) | (rw [hvv, nmA_2 (by omega), nmA_2 (by omega)]))) _ _ hP hD hS _ (lv_sub hl [0] rfl)
          · refine lv_aload_n hx hb dX3_readNumber_38 rfl (lv_at hl 0 rfl) ?_
            refine lv_aload_n hx hb dX3_readNumber_39 rfl (lv_at hl 0 rfl) ?_
            refine va_get (D := (dC, dI)) (ci := 2) (v := .int (zI vv)) (C := RX3) (T := TX3) (N := 7) hx hb hts in_X3 hown hK hP 0 rfl rfl 6 (by decide) w_4 (fun _ h9 => h9) rfl dX3_readNumber_40 ?_
            refine zv_bipush hx hb dX3_readNumber_43 (by decide +kernel) ?_
            refine zv_imul hx hb dX3_readNumber_45 ?_
            refine lv_aload_n hx hb dX3_readNumber_46 rfl (lv_at hl 0 rfl) ?_
            refine lv_aload_n hx hb dX3_readNumber_47 rfl (lv_at hl 0 rfl) ?_
            refine va_get (D := (dC, dI)) (ci := 2) (v := .int (zI q)) (C := RX3) (T := TX3) (N := 7) hx hb hts in_X3 hown hK hP 0 rfl rfl 2 (by decide) w_0 (fun _ h9 => h9) rfl dX3_readNumber_48 ?_
            refine zv_callRV (As := [.int (zI q)]) (rest := [.int (zI (vv * 10)), .ref x0]) ⟨hx, hb, hml, hown, hts⟩ (c_X3_signAt l dC dI cI cB cZ x0 x1 ln q ft tk tS vv bys q (by omega) (by omega)) (cwV 1 hts gX3_readNumber_X3_signAt rfl rfl rfl (by decide +kernel) ⟨by rw [← hRM]; first | decide | (dsimp only; omega), by rw [← hRM]; first | decide | (dsimp only; omega)⟩) hP hK [0, 1] rfl [0, 1, 2] rfl zN_bl (zN_go hE) (q0 := 0) rfl rfl rfl rfl hl.1 rfl (Nat.le_of_ble_eq_true rfl) dX3_readNumber_51 ⟨Nat.zero_le _, Nat.zero_le _⟩ ?_
            rw [show (sgA ln bys q) = bys q from sgA_in (by omega)]
            refine zv_iadd hx hb dX3_readNumber_54 ?_
            refine zv_bipush hx hb dX3_readNumber_55 (by decide +kernel) ?_
            refine zv_isub hx hb dX3_readNumber_57 ?_
            refine va_put (D := (dC, dI)) (ci := 2) (v := .int (zI (((vv * 10) + (bys q)) - 48))) (ty := .int) (C := RX3) (T := TX3) (N := 7) hx hb hts in_X3 tyX3 tyX3_ok nmX3 hown hK hP hD hS 0 rfl rfl 6 (by decide) w_4 (fun _ h9 => h9) rfl (by decide +kernel) rfl rfl (Nat.le_of_ble_eq_true rfl) dX3_readNumber_58 (fun H locs hP hD hS => ?_)
            have hP : va_P (dC, dI) vwCl [(x0, .inr (2, [.int (zI ln), .ref x1, .int (zI q), .int (zI ft), .int (zI tk), .int (zI tS), .int (zI (((vv * 10) + (bys q)) - 48))])), (x1, .inl (cI, 200, .inl (zA bys)))] H := hP
            have hD : va_D A [(x0, .inr (2, [.int (zI ln), .ref x1, .int (zI q), .int (zI ft), .int (zI tk), .int (zI tS), .int (zI (((vv * 10) + (bys q)) - 48))])), (x1, .inl (cI, 200, .inl (zA bys)))] := hD
            refine lv_aload_n hx hb dX3_readNumber_61 rfl (lv_at hl 0 rfl) ?_
            refine lv_dup hx hb dX3_readNumber_62 rfl ?_
            refine va_get (D := (dC, dI)) (ci := 2) (v := .int (zI q)) (C := RX3) (T := TX3) (N := 7) hx hb hts in_X3 hown hK hP 0 rfl rfl 2 (by decide) w_0 (fun _ h9 => h9) rfl dX3_readNumber_63 ?_
            refine zv_iconst hx hb dX3_readNumber_66 ?_
            refine zv_iadd hx hb dX3_readNumber_67 ?_
            refine va_put (D := (dC, dI)) (ci := 2) (v := .int (zI (q + 1))) (ty := .int) (C := RX3) (T := TX3) (N := 7) hx hb hts in_X3 tyX3 tyX3_ok nmX3 hown hK hP hD hS 0 rfl rfl 2 (by decide) w_0 (fun _ h9 => h9) rfl (by decide +kernel) rfl rfl (Nat.le_of_ble_eq_true rfl) dX3_readNumber_68 (fun H locs hP hD hS => ?_)
            have hP : va_P (dC, dI) vwCl [(x0, .inr (2, [.int (zI ln), .ref x1, .int (zI (q + 1)), .int (zI ft), .int (zI tk), .int (zI tS), .int (zI (((vv * 10) + (bys q)) - 48))])), (x1, .inl (cI, 200, .inl (zA bys)))] H := hP
            have hD : va_D A [(x0, .inr (2, [.int (zI ln), .ref x1, .int (zI (q + 1)), .int (zI ft), .int (zI tk), .int (zI tS), .int (zI (((vv * 10) + (bys q)) - 48))])), (x1, .inl (cI, 200, .inl (zA bys)))] := hD
            refine lv_goto (tgt := 0) hx hb dX3_readNumber_71 (by decide) ?_
            exact ih0 (q + 1) (((vv * 10) + (bys q)) - 48) (by omega) (by omega) (by rw [← hsk]; exact (skE_s (by omega) c_22).symm) (by first | (by_cases z0 : q = tS; (first | (exfalso; omega) | (rw [hvv, z0, nmA_0, nmA_1]; omega)); by_cases z1 : q = tS + 1; (first | (exfalso; omega) | (rw [hvv, z1, nmA_1, nmA_2 (by omega)]; omega)); first | (exfalso; omega) | (rw [hvv, nmA_2 (by omega), nmA_2 (by omega)]))) _ _ hP hD hS _ (lv_sub hl [0] rfl)
  exact cut0 _ pl 0 (Nat.lt_succ_self _) (by omega) (by rw [hpl.2.2]) (by unfold nmA; rw [if_pos (by omega)]) _ _ hP hD hS _ (lv_sub hl [0] rfl)
