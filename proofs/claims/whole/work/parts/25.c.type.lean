/-! bytes of a long -/
def lsU (v : Int64) (i : Int) : Int64 := (v.toUInt64 >>> ((zI (8 * i)).toInt64.toUInt64 &&& Int64.toUInt64 63)).toInt64
def cB8 (v : Int64) (i : Int) : Int := ((lsU v i).toInt32 &&& 255).toInt
theorem cB8_z {v : Int64} {i : Int} : zI ((lsU v i).toInt32.toInt) &&& zI 255 = zI (cB8 v i) := by
  unfold cB8
  rw [zI_as, zI_as]
  rfl
def lsA (v : Int64) (i : Int) : Int64 := v >>> ((zI (8 * i)).toInt64 &&& 63)
def mB8 (v : Int64) (i : Int) : Int := ((lsA v i &&& 255).toInt32.toInt8.toInt32).toInt
def tyA (g : Int → Int) (ln : Int) (bys : Int → Int) : Nat → (Int → Int)
  | 0 => bys
  | j + 1 => zu (tyA g ln bys j) (ln + (j : Int)) (g (j : Int))
theorem tyA_s {f : Int → Int} {ln cn i : Int} {bys : Int → Int} (h : 0 ≤ cn - 1 - i) : tyA (fun j => f (cn - 1 - j)) ln bys ((cn - 1 - i).toNat + 1) = zu (tyA (fun j => f (cn - 1 - j)) ln bys (cn - 1 - i).toNat) (ln + (cn - 1 - i)) (f i) := by
  show zu _ (ln + (((cn - 1 - i).toNat : Nat) : Int)) (f (cn - 1 - (((cn - 1 - i).toNat : Nat) : Int))) = _
  rw [Int.toNat_of_nonneg h, show cn - 1 - (cn - 1 - i) = i by omega]
def q_typN (cn : Int) : Int := if 1 ≤ cn ∧ cn ≤ 8 then -3 else -1
set_option maxHeartbeats 4000000 in
set_option maxRecDepth 100000 in
theorem c_X5_typeN (l : Launch) (dC : Nat → ClassId) (dI : Nat → Nat → Nat) (cI cB cZ : ClassId) (w0 : Nat) (x0 : Nat) (h0 : Nat) (g0 : Nat) (p0 : Nat) (q0 : Nat) (r0 : Nat) (fk : Int) (sk : Int) (t0 : Nat) (b1 : Nat) (b2 : Nat) (tr : Int64) (x1 : Nat) (ln : Int) (pl : Int) (ft : Int) (tk : Int) (tS : Int) (tv : Int) (bys : Int → Int) (vv : Int64) (cn : Int) (hln : 0 ≤ ln ∧ ln ≤ 200) (hcn : -2147483648 ≤ cn ∧ cn ≤ 2147483647) (hno : ¬ ((1 ≤ cn ∧ cn ≤ 8) ∧ ln + cn ≤ 200)) : MetR l yX5_type wsX5_type ({ frames := 0, cells := 0, slots := 0, locals := 0 }) (dC, dI) vwCl (zT cI cB cZ) zN [(w0, .inr (4, [.ref x0, .ref h0, .ref g0, .ref p0, .ref q0, .ref r0, .int (zI fk), .int (zI sk), .ref t0, .ref b1, .ref b2, .long tr])), (x0, .inr (2, [.int (zI ln), .ref x1, .int (zI pl), .int (zI ft), .int (zI tk), .int (zI tS), .int (zI tv)])), (x1, .inl (cI, 200, .inl (zA bys)))] [.ref w0, .long vv, .int (zI cn)] (zI (q_typN cn)) := by
  refine MetR.intro (cc := cX5_type) (maxL := 5) (ret := (some .int)) (by decide) rfl (Nat.le_of_ble_eq_true rfl) ?_
  intro p e s m args below meth c hx hb hr hlocks hml hts hown hP hK hE ls hl
  have hown : s.vm.findClass RX5 = some m.cls := hown
  have hl : lv_has ls 5 [(0, .ref w0), (1, .long vv), (3, .int (zI cn))] := hl
  generalize hRM : ({ frames := 0, cells := 0, slots := 0, locals := 0 } : Room) = RM
  generalize hQQ : MQ below (vp_Si (fun r => r = zI (q_typN cn))) args s 0 0 (fun _ => False) = QQ
  have in_X3 : ∀ w ∈ wsX30, w ∈ wsX5_type := by decide +kernel
  have in_X5 : ∀ w ∈ wsX50, w ∈ wsX5_type := by decide +kernel
  have w_0 := hts (.fieldLink RX5 10 "WallMarbles" "text" "LWallMarbles$Text;") (by decide +kernel)
  have n_53 := va_Nw.use (A := args) rfl (zN_0 hE)
  refine lv_iload_n hx hb dX5_type_0 rfl (lv_at hl 2 rfl) ?_
  refine zv_iconst hx hb dX5_type_1 ?_
  refine zv_icmp_lt (tgt := 11) hx hb (by omega) (by omega) dX5_type_2 (by decide) (fun c_2 => ?_) (fun c_2 => ?_)
  · refine zv_iconst hx hb dX5_type_11 ?_
    rw [← hQQ]
    exact zr_iret hx hb hr hlocks (congrArg zI (show (-1) = q_typN cn from by unfold q_typN; (repeat' split) <;> first | rfl | omega)) dX5_type_12
  · refine lv_iload_n hx hb dX5_type_5 rfl (lv_at hl 2 rfl) ?_
    refine zv_bipush hx hb dX5_type_6 (by decide +kernel) ?_
    refine zv_icmp_le (tgt := 13) hx hb (by omega) (by omega) dX5_type_8 (by decide) (fun c_8 => ?_) (fun c_8 => ?_)
    · refine lv_aload_n hx hb dX5_type_13 rfl (lv_at hl 0 rfl) ?_
      refine va_get (D := (dC, dI)) (ci := 4) (v := .ref x0) (C := RX5) (T := TX5) (N := 12) hx hb hts in_X5 hown hK hP 0 rfl rfl 0 (by decide) w_0 (fun _ h9 => h9) rfl dX5_type_14 ?_
      refine va_getN (D := (dC, dI)) (ci := 2) (v := .int (zI ln)) (C := RX3) (T := TX3) (N := 7) hx hb hts in_X3 hown hK hP 1 rfl rfl 0 (by decide) n_53 (fun _ h9 => h9) rfl dX5_type_17 ?_
      refine lv_iload_n hx hb dX5_type_20 rfl (lv_at hl 2 rfl) ?_
      refine zv_iadd hx hb dX5_type_21 ?_
      refine zv_sipush hx hb dX5_type_22 (by decide +kernel) ?_
      refine zv_icmp_le (tgt := 31) hx hb (by omega) (by omega) dX5_type_25 (by decide) (fun c_25 => ?_) (fun c_25 => ?_)
      · exfalso; omega
      · refine zv_bipush hx hb dX5_type_28 (by decide +kernel) ?_
        rw [← hQQ]
        exact zr_iret hx hb hr hlocks (congrArg zI (show (-3) = q_typN cn from by unfold q_typN; (repeat' split) <;> first | rfl | omega)) dX5_type_30
    · refine zv_iconst hx hb dX5_type_11 ?_
      rw [← hQQ]
      exact zr_iret hx hb hr hlocks (congrArg zI (show (-1) = q_typN cn from by unfold q_typN; (repeat' split) <;> first | rfl | omega)) dX5_type_12
set_option maxHeartbeats 4000000 in
set_option maxRecDepth 100000 in
theorem c_X5_typeY (l : Launch) (dC : Nat → ClassId) (dI : Nat → Nat → Nat) (cI cB cZ : ClassId) (w0 : Nat) (x0 : Nat) (h0 : Nat) (g0 : Nat) (p0 : Nat) (q0 : Nat) (r0 : Nat) (fk : Int) (sk : Int) (t0 : Nat) (b1 : Nat) (b2 : Nat) (tr : Int64) (x1 : Nat) (ln : Int) (pl : Int) (ft : Int) (tk : Int) (tS : Int) (tv : Int) (bys : Int → Int) (vv : Int64) (cn : Int) (hln : 0 ≤ ln ∧ ln ≤ 200) (hok : (1 ≤ cn ∧ cn ≤ 8) ∧ ln + cn ≤ 200) : MetW (S := (Int → Int)) l yX5_type wsX5_type ({ frames := 1, cells := 0, slots := 0, locals := 21 }) (dC, dI) vwCl (zT cI cB cZ) zN [(w0, .inr (4, [.ref x0, .ref h0, .ref g0, .ref p0, .ref q0, .ref r0, .int (zI fk), .int (zI sk), .ref t0, .ref b1, .ref b2, .long tr])), (x0, .inr (2, [.int (zI ln), .ref x1, .int (zI pl), .int (zI ft), .int (zI tk), .int (zI tS), .int (zI tv)])), (x1, .inl (cI, 200, .inl (zA bys)))] [.ref w0, .long vv, .int (zI cn)] (fun u => some (.int (zI (ln + cn)))) (fun u => [(w0, .inr (4, [.ref x0, .ref h0, .ref g0, .ref p0, .ref q0, .ref r0, .int (zI fk), .int (zI sk), .ref t0, .ref b1, .ref b2, .long tr])), (x0, .inr (2, [.int (zI (ln + cn)), .ref x1, .int (zI pl), .int (zI ft), .int (zI tk), .int (zI tS), .int (zI tv)])), (x1, .inl (cI, 200, .inl (zA u)))]) (fun u => (u = tyA (fun j => cB8 vv (cn - 1 - j)) ln bys cn.toNat)) := by
  refine MetW.intro (cc := cX5_type) (maxL := 5) (ret := (some .int)) (by decide) rfl (Nat.le_of_ble_eq_true rfl) ?_
  intro p e s m args below meth c A hx hb hr hlocks hml hts hown hP hK hD hS hA hE ls hl
  have hown : s.vm.findClass RX5 = some m.cls := hown
  have hl : lv_has ls 5 [(0, .ref w0), (1, .long vv), (3, .int (zI cn))] := hl
  generalize hRM : ({ frames := 1, cells := 0, slots := 0, locals := 21 } : Room) = RM
  generalize hQQ : MQ below (QW (S := (Int → Int)) (dC, dI) vwCl A (fun u => some (.int (zI (ln + cn)))) (fun u => [(w0, .inr (4, [.ref x0, .ref h0, .ref g0, .ref p0, .ref q0, .ref r0, .int (zI fk), .int (zI sk), .ref t0, .ref b1, .ref b2, .long tr])), (x0, .inr (2, [.int (zI (ln + cn)), .ref x1, .int (zI pl), .int (zI ft), .int (zI tk), .int (zI tS), .int (zI tv)])), (x1, .inl (cI, 200, .inl (zA u)))]) (fun u => (u = tyA (fun j => cB8 vv (cn - 1 - j)) ln bys cn.toNat))) args s 0 0 A = QQ
  have in_X3 : ∀ w ∈ wsX30, w ∈ wsX5_type := by decide +kernel
  have in_X5 : ∀ w ∈ wsX50, w ∈ wsX5_type := by decide +kernel
  have w_0 := hts (.fieldLink RX5 10 "WallMarbles" "text" "LWallMarbles$Text;") (by decide +kernel)
  have n_53 := va_Nw.use (A := args) rfl (zN_0 hE)
  have cut36 : ∀ (nM : Nat) (i : Int) (lnv : Int) (byv : Int → Int),  ((i + 1).toNat) < nM → (-1 ≤ i ∧ i < cn) → (lnv = ln + (cn - 1 - i)) → (byv = tyA (fun j => cB8 vv (cn - 1 - j)) ln bys (cn - 1 - i).toNat) → ∀ (H : Heap) (locs : List Loc), va_P (dC, dI) vwCl [(w0, .inr (4, [.ref x0, .ref h0, .ref g0, .ref p0, .ref q0, .ref r0, .int (zI fk), .int (zI sk), .ref t0, .ref b1, .ref b2, .long tr])), (x0, .inr (2, [.int (zI lnv), .ref x1, .int (zI pl), .int (zI ft), .int (zI tk), .int (zI tS), .int (zI tv)])), (x1, .inl (cI, 200, .inl (zA byv)))] H → va_D A [(w0, .inr (4, [.ref x0, .ref h0, .ref g0, .ref p0, .ref q0, .ref r0, .int (zI fk), .int (zI sk), .ref t0, .ref b1, .ref b2, .long tr])), (x0, .inr (2, [.int (zI lnv), .ref x1, .int (zI pl), .int (zI ft), .int (zI tk), .int (zI tS), .int (zI tv)])), (x1, .inl (cI, 200, .inl (zA byv)))] → va_S A s.heap H locs → ∀ ls : Array Slot, lv_has ls 5 [(0, .ref w0), (1, .long vv), (3, .int (zI cn)), (4, .int (zI i))] → W p l e RM s m args below meth c H locs 0 0 QQ (F0 m 36 ls []) := by
    intro nM
    induction nM with
    | zero => intro i lnv byv hmu; exact absurd hmu (Nat.not_lt_zero _)
    | succ nM ih36 =>
      intro i lnv byv hmu hi hl9 hb9 H locs hP hD hS ls hl
      refine lv_iload hx hb dX5_type_36 (lv_at hl 3 rfl) ?_
      refine zv_if_lt (tgt := 66) hx hb (by omega) dX5_type_38 (by decide) (fun c_38 => ?_) (fun c_38 => ?_)
      · have ei : i = -1 := by omega
        subst ei
        have el : lnv = ln + cn := by omega
        subst el
        refine lv_aload_n hx hb dX5_type_66 rfl (lv_at hl 0 rfl) ?_
        refine va_get (D := (dC, dI)) (ci := 4) (v := .ref x0) (C := RX5) (T := TX5) (N := 12) hx hb hts in_X5 hown hK hP 0 rfl rfl 0 (by decide) w_0 (fun _ h9 => h9) rfl dX5_type_67 ?_
        refine va_getN (D := (dC, dI)) (ci := 2) (v := .int (zI (ln + cn))) (C := RX3) (T := TX3) (N := 7) hx hb hts in_X3 hown hK hP 1 rfl rfl 0 (by decide) n_53 (fun _ h9 => h9) rfl dX5_type_70 ?_
        rw [← hQQ]
        exact zw_iret hx hb hr hlocks (byv) rfl (by rw [hb9, show cn - 1 - -1 = cn by omega]) hP hS dX5_type_73
      · refine lv_aload_n hx hb dX5_type_41 rfl (lv_at hl 0 rfl) ?_
        refine va_get (D := (dC, dI)) (ci := 4) (v := .ref x0) (C := RX5) (T := TX5) (N := 12) hx hb hts in_X5 hown hK hP 0 rfl rfl 0 (by decide) w_0 (fun _ h9 => h9) rfl dX5_type_42 ?_
        refine lv_lload_n hx hb dX5_type_45 rfl (lv_at hl 1 rfl) ?_
        refine zv_bipush hx hb dX5_type_46 (by decide +kernel) ?_
        refine lv_iload hx hb dX5_type_48 (lv_at hl 3 rfl) ?_
        refine zv_imul hx hb dX5_type_50 ?_
        refine lv_lushr (v := lsU vv i) hx hb dX5_type_51 (rfl) ?_
        refine lv_l2i (v := zI ((lsU vv i).toInt32.toInt)) hx hb dX5_type_52 ((zI_as _).symm) ?_
        refine zv_sipush hx hb dX5_type_53 (by decide +kernel) ?_
        refine zv_iand (z := cB8 vv i) hx hb (cB8_z) dX5_type_56 ?_
        refine zv_callWV (As := [.int (zI (cB8 vv i))]) (rest := []) (ws2 := fun u => [(w0, .inr (4, [.ref x0, .ref h0, .ref g0, .ref p0, .ref q0, .ref r0, .int (zI fk), .int (zI sk), .ref t0, .ref b1, .ref b2, .long tr])), (x0, .inr (2, [.int (zI (lnv + 1)), .ref x1, .int (zI pl), .int (zI ft), .int (zI tk), .int (zI tS), .int (zI tv)])), (x1, .inl (cI, 200, .inl (zA (zu byv lnv (cB8 vv i)))))]) ⟨hx, hb, hml, hown, hts⟩ (c_X3_append l dC dI cI cB cZ x0 x1 lnv pl ft tk tS tv byv (cB8 vv i) (by omega)) (cwV 1 hts gX5_type_X3_append rfl rfl rfl (by decide +kernel) ⟨by rw [← hRM]; first | decide | (dsimp only; omega), by rw [← hRM]; first | decide | (dsimp only; omega)⟩) hP hD hS hA hK [1, 2] rfl (by decide) [0, 1, 2] rfl zN_bl (zN_go hE) (fun _ => rfl) (fun _ => rfl) (q0 := 0) rfl rfl rfl rfl hl.1 rfl (Nat.le_of_ble_eq_true rfl) dX5_type_57 ⟨Nat.zero_le _, Nat.zero_le _⟩ (fun u H locs hpo hP hD hS => ?_)
        have hP : va_P (dC, dI) vwCl [(w0, .inr (4, [.ref x0, .ref h0, .ref g0, .ref p0, .ref q0, .ref r0, .int (zI fk), .int (zI sk), .ref t0, .ref b1, .ref b2, .long tr])), (x0, .inr (2, [.int (zI (lnv + 1)), .ref x1, .int (zI pl), .int (zI ft), .int (zI tk), .int (zI tS), .int (zI tv)])), (x1, .inl (cI, 200, .inl (zA (zu byv lnv (cB8 vv i)))))] H := hP
        have hD : va_D A [(w0, .inr (4, [.ref x0, .ref h0, .ref g0, .ref p0, .ref q0, .ref r0, .int (zI fk), .int (zI sk), .ref t0, .ref b1, .ref b2, .long tr])), (x0, .inr (2, [.int (zI (lnv + 1)), .ref x1, .int (zI pl), .int (zI ft), .int (zI tk), .int (zI tS), .int (zI tv)])), (x1, .inl (cI, 200, .inl (zA (zu byv lnv (cB8 vv i)))))] := hD
        refine W.eq (g2 := F0 m 60 ls []) rfl ?_
        refine zv_iinc (k := 3) (a := i) (n := (-1)) (lv' := [(4, .int (zI (i + (-1)))), (0, .ref w0), (1, .long vv), (3, .int (zI cn))]) hx hb dX5_type_60 hl rfl (by decide) rfl (fun ls hl => ?_)
        refine lv_goto (tgt := 36) hx hb dX5_type_63 (by decide) ?_
        exact ih36 (i + (-1)) (lnv + 1) (zu byv lnv (cB8 vv i)) (by omega) (by omega) (by omega) (by rw [show (cn - 1 - (i + (-1))).toNat = (cn - 1 - i).toNat + 1 by omega, hb9, hl9]; exact (tyA_s (by omega)).symm) _ _ hP hD hS _ (lv_sub hl [1, 2, 3, 0] rfl)
  refine lv_iload_n hx hb dX5_type_0 rfl (lv_at hl 2 rfl) ?_
  refine zv_iconst hx hb dX5_type_1 ?_
  refine zv_icmp_lt (tgt := 11) hx hb (by omega) (by omega) dX5_type_2 (by decide) (fun c_2 => ?_) (fun c_2 => ?_)
  · exfalso; omega
  · refine lv_iload_n hx hb dX5_type_5 rfl (lv_at hl 2 rfl) ?_
    refine zv_bipush hx hb dX5_type_6 (by decide +kernel) ?_
    refine zv_icmp_le (tgt := 13) hx hb (by omega) (by omega) dX5_type_8 (by decide) (fun c_8 => ?_) (fun c_8 => ?_)
    · refine lv_aload_n hx hb dX5_type_13 rfl (lv_at hl 0 rfl) ?_
      refine va_get (D := (dC, dI)) (ci := 4) (v := .ref x0) (C := RX5) (T := TX5) (N := 12) hx hb hts in_X5 hown hK hP 0 rfl rfl 0 (by decide) w_0 (fun _ h9 => h9) rfl dX5_type_14 ?_
      refine va_getN (D := (dC, dI)) (ci := 2) (v := .int (zI ln)) (C := RX3) (T := TX3) (N := 7) hx hb hts in_X3 hown hK hP 1 rfl rfl 0 (by decide) n_53 (fun _ h9 => h9) rfl dX5_type_17 ?_
      refine lv_iload_n hx hb dX5_type_20 rfl (lv_at hl 2 rfl) ?_
      refine zv_iadd hx hb dX5_type_21 ?_
      refine zv_sipush hx hb dX5_type_22 (by decide +kernel) ?_
      refine zv_icmp_le (tgt := 31) hx hb (by omega) (by omega) dX5_type_25 (by decide) (fun c_25 => ?_) (fun c_25 => ?_)
      · refine lv_iload_n hx hb dX5_type_31 rfl (lv_at hl 2 rfl) ?_
        refine zv_iconst hx hb dX5_type_32 ?_
        refine zv_isub hx hb dX5_type_33 ?_
        refine lv_istore (lv' := [(4, .int (zI (cn - 1))), (0, .ref w0), (1, .long vv), (3, .int (zI cn))]) hx hb dX5_type_34 hl (by decide) rfl (fun ls hl => ?_)
        exact cut36 _ (cn - 1) ln bys (Nat.lt_succ_self _) (by omega) (by omega) (by rw [show (cn - 1 - (cn - 1)).toNat = 0 by omega]; rfl) _ _ hP hD hS _ (lv_sub hl [1, 2, 3, 0] rfl)
      · exfalso; omega
    · exfalso; omega
