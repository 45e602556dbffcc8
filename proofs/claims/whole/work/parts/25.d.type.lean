theorem mB8_z {v : Int64} {i : Int} : (zI ((lsA v i &&& 255).toInt32.toInt)).toInt8.toInt32 = zI (mB8 v i) := by
  unfold mB8
  rw [zI_as, zI_as]
theorem mB8_n {v : Int64} {i : Int} : vp_nar .byte (zI (mB8 v i)) = zI (mB8 v i) := by
  unfold mB8
  rw [zI_as]
  show ((lsA v i &&& 255).toInt32.toInt8.toInt32).toInt8.toInt32 = _
  rw [Int8.toInt8_toInt32]
theorem low8 {v : Int64} {i : Int} (h : 0 ≤ i ∧ i ≤ 7) : (lsU v i).toBitVec.setWidth 8 = (lsA v i).toBitVec.setWidth 8 := by
  unfold lsU lsA
  have key : ∀ k : Nat, k ≤ 56 → (v.toBitVec >>> k).setWidth 8 = (v.toBitVec.sshiftRight k).setWidth 8 := by
    intro k hk
    apply BitVec.eq_of_getLsbD_eq
    intro j hj
    rw [BitVec.getLsbD_setWidth, BitVec.getLsbD_setWidth, BitVec.getLsbD_ushiftRight, BitVec.getLsbD_sshiftRight]
    have h1 : ¬ 64 ≤ j := by omega
    have h2 : k + j < 64 := by omega
    simp [h1, h2]
  rcases (show i = 0 ∨ i = 1 ∨ i = 2 ∨ i = 3 ∨ i = 4 ∨ i = 5 ∨ i = 6 ∨ i = 7 by omega) with rfl | rfl | rfl | rfl | rfl | rfl | rfl | rfl
  · exact key 0 (by omega)
  · exact key 8 (by omega)
  · exact key 16 (by omega)
  · exact key 24 (by omega)
  · exact key 32 (by omega)
  · exact key 40 (by omega)
  · exact key 48 (by omega)
  · exact key 56 (by omega)
set_option maxHeartbeats 4000000 in
set_option maxRecDepth 100000 in
theorem c_X6_typeN (l : Launch) (dC : Nat → ClassId) (dI : Nat → Nat → Nat) (cI cB cZ : ClassId) (a0 : Nat) (a1 : Nat) (a2 : Nat) (a3 : Nat) (a4 : Nat) (a5 : Nat) (a6 : Nat) (a7 : Nat) (a8 : Nat) (a9 : Nat) (a10 : Nat) (a11 : Nat) (a12 : Nat) (a13 : Nat) (a14 : Nat) (a15 : Nat) (a16 : Nat) (a17 : Nat) (mtr : Int64) (tx : Int → Int) (ty : Int) (pa : Int → Int) (ms : Int → Int) (ml : Int → Int) (mr : Int → Int) (mt : Int → Int) (mat : Int) (mst : Int) (mso : Int) (mva : Int) (mfa : Int) (nw : Int → Int) (ik : Int → Int) (sd : Int → Int) (mlo : Int) (ra : Int → Int) (rm : Int) (bg : Int → Int) (to : Int → Int) (tm : Int) (cd : Int → Int) (fi : Int → Int) (tsz : Int → Int) (tcm : Int → Int) (tmy : Int) (mg : Int → Int) (vv : Int64) (cn : Int) (hty : 0 ≤ ty ∧ ty ≤ 200) (hcn : -2147483648 ≤ cn ∧ cn ≤ 2147483647) (hno : ¬ ((1 ≤ cn ∧ cn ≤ 8) ∧ ty + cn ≤ 200)) : MetR l yX6_type wsX6_type ({ frames := 1, cells := 0, slots := 0, locals := 22 }) (dC, dI) vwCl (zT cI cB cZ) zN [(a0, .inr (5, [.long mtr, .ref a1, .int (zI ty), .ref a2, .ref a3, .ref a4, .ref a5, .ref a6, .int (zI mat), .int (zI mst), .int (zI mso), .int (zI mva), .int (zI mfa), .ref a7, .ref a8, .ref a9, .int (zI mlo), .ref a10, .int (zI rm), .ref a11, .ref a12, .int (zI tm), .ref a13, .ref a14, .ref a15, .ref a16, .int (zI tmy), .ref a17])), (a1, .inl (cB, 200, .inl (zA tx))), (a2, .inl (cI, 2, .inl (zA pa))), (a3, .inl (cI, 18, .inl (zA ms))), (a4, .inl (cI, 18, .inl (zA ml))), (a5, .inl (cI, 18, .inl (zA mr))), (a6, .inl (cI, 18, .inl (zA mt))), (a7, .inl (cI, 1143, .inl (zA nw))), (a8, .inl (cZ, 2, .inl (zA ik))), (a9, .inl (cI, 9, .inl (zA sd))), (a10, .inl (cI, 9, .inl (zA ra))), (a11, .inl (cI, 9, .inl (zA bg))), (a12, .inl (cI, 4, .inl (zA to))), (a13, .inl (cI, 200, .inl (zA cd))), (a14, .inl (cI, 9, .inl (zA fi))), (a15, .inl (cI, 9, .inl (zA tsz))), (a16, .inl (cI, 9, .inl (zA tcm))), (a17, .inl (cI, 10, .inl (zA mg)))] [.ref a0, .long vv, .int (zI cn)] (zI (q_typN cn)) := by
  refine MetR.intro (cc := cX6_type) (maxL := 5) (ret := (some .int)) (by decide) rfl (Nat.le_of_ble_eq_true rfl) ?_
  intro p e s m args below meth c hx hb hr hlocks hml hts hown hP hK hE ls hl
  have hown : s.vm.findClass RX6 = some m.cls := hown
  have hl : lv_has ls 5 [(0, .ref a0), (1, .long vv), (3, .int (zI cn))] := hl
  generalize hRM : ({ frames := 1, cells := 0, slots := 0, locals := 22 } : Room) = RM
  generalize hQQ : MQ below (vp_Si (fun r => r = zI (q_typN cn))) args s 0 0 (fun _ => False) = QQ
  have in_X6 : ∀ w ∈ wsX60, w ∈ wsX6_type := by decide +kernel
  have w_0 := hts (.fieldLink RX6 67 "WallMarblesModel" "typed" "I") (by decide +kernel)
  refine lv_iload_n hx hb dX6_type_0 rfl (lv_at hl 2 rfl) ?_
  refine zv_iconst hx hb dX6_type_1 ?_
  refine zv_bipush hx hb dX6_type_2 (by decide +kernel) ?_
  refine zv_callRS (As := [.int (zI cn), .int (zI 1), .int (zI 8)]) (rest := []) ⟨hx, hb, hml, hown, hts⟩ (c_X6_in l dC dI cI cB cZ cn 1 8 (by omega) (by omega) (by omega)) (va_cwS 3 hts gX6_type_X6_in rfl rfl rfl (by decide +kernel) ⟨by rw [← hRM]; first | decide | (dsimp only; omega), by rw [← hRM]; first | decide | (dsimp only; omega)⟩) hP hK [] rfl [0, 1, 2] rfl zN_bl (zN_go hE) rfl hl.1 rfl (Nat.le_of_ble_eq_true rfl) dX6_type_4 ⟨Nat.zero_le _, Nat.zero_le _⟩ ?_
  refine zv_ifne_b (tgt := 12) hx hb dX6_type_7 (by decide) (fun c_7 => ?_) (fun c_7 => ?_)
  · refine lv_aload_n hx hb dX6_type_12 rfl (lv_at hl 0 rfl) ?_
    refine va_get (D := (dC, dI)) (ci := 5) (v := .int (zI ty)) (C := RX6) (T := TX6) (N := 28) hx hb hts in_X6 hown hK hP 0 rfl rfl 2 (by decide) w_0 (fun _ h9 => h9) rfl dX6_type_13 ?_
    refine lv_iload_n hx hb dX6_type_16 rfl (lv_at hl 2 rfl) ?_
    refine zv_iadd hx hb dX6_type_17 ?_
    refine zv_sipush hx hb dX6_type_18 (by decide +kernel) ?_
    refine zv_icmp_le (tgt := 27) hx hb (by omega) (by omega) dX6_type_21 (by decide) (fun c_21 => ?_) (fun c_21 => ?_)
    · exfalso; omega
    · refine zv_bipush hx hb dX6_type_24 (by decide +kernel) ?_
      rw [← hQQ]
      exact zr_iret hx hb hr hlocks (congrArg zI (show (-3) = q_typN cn from by unfold q_typN; (repeat' split) <;> first | rfl | omega)) dX6_type_26
  · refine zv_iconst hx hb dX6_type_10 ?_
    rw [← hQQ]
    exact zr_iret hx hb hr hlocks (congrArg zI (show (-1) = q_typN cn from by unfold q_typN; (repeat' split) <;> first | rfl | omega)) dX6_type_11
set_option maxHeartbeats 4000000 in
set_option maxRecDepth 100000 in
theorem c_X6_typeY (l : Launch) (dC : Nat → ClassId) (dI : Nat → Nat → Nat) (cI cB cZ : ClassId) (a0 : Nat) (a1 : Nat) (a2 : Nat) (a3 : Nat) (a4 : Nat) (a5 : Nat) (a6 : Nat) (a7 : Nat) (a8 : Nat) (a9 : Nat) (a10 : Nat) (a11 : Nat) (a12 : Nat) (a13 : Nat) (a14 : Nat) (a15 : Nat) (a16 : Nat) (a17 : Nat) (mtr : Int64) (tx : Int → Int) (ty : Int) (pa : Int → Int) (ms : Int → Int) (ml : Int → Int) (mr : Int → Int) (mt : Int → Int) (mat : Int) (mst : Int) (mso : Int) (mva : Int) (mfa : Int) (nw : Int → Int) (ik : Int → Int) (sd : Int → Int) (mlo : Int) (ra : Int → Int) (rm : Int) (bg : Int → Int) (to : Int → Int) (tm : Int) (cd : Int → Int) (fi : Int → Int) (tsz : Int → Int) (tcm : Int → Int) (tmy : Int) (mg : Int → Int) (vv : Int64) (cn : Int) (hty : 0 ≤ ty ∧ ty ≤ 200) (hok : (1 ≤ cn ∧ cn ≤ 8) ∧ ty + cn ≤ 200) : MetW (S := (Int → Int)) l yX6_type wsX6_type ({ frames := 1, cells := 0, slots := 0, locals := 22 }) (dC, dI) vwCl (zT cI cB cZ) zN [(a0, .inr (5, [.long mtr, .ref a1, .int (zI ty), .ref a2, .ref a3, .ref a4, .ref a5, .ref a6, .int (zI mat), .int (zI mst), .int (zI mso), .int (zI mva), .int (zI mfa), .ref a7, .ref a8, .ref a9, .int (zI mlo), .ref a10, .int (zI rm), .ref a11, .ref a12, .int (zI tm), .ref a13, .ref a14, .ref a15, .ref a16, .int (zI tmy), .ref a17])), (a1, .inl (cB, 200, .inl (zA tx))), (a2, .inl (cI, 2, .inl (zA pa))), (a3, .inl (cI, 18, .inl (zA ms))), (a4, .inl (cI, 18, .inl (zA ml))), (a5, .inl (cI, 18, .inl (zA mr))), (a6, .inl (cI, 18, .inl (zA mt))), (a7, .inl (cI, 1143, .inl (zA nw))), (a8, .inl (cZ, 2, .inl (zA ik))), (a9, .inl (cI, 9, .inl (zA sd))), (a10, .inl (cI, 9, .inl (zA ra))), (a11, .inl (cI, 9, .inl (zA bg))), (a12, .inl (cI, 4, .inl (zA to))), (a13, .inl (cI, 200, .inl (zA cd))), (a14, .inl (cI, 9, .inl (zA fi))), (a15, .inl (cI, 9, .inl (zA tsz))), (a16, .inl (cI, 9, .inl (zA tcm))), (a17, .inl (cI, 10, .inl (zA mg)))] [.ref a0, .long vv, .int (zI cn)] (fun u => some (.int (zI (ty + cn)))) (fun u => [(a0, .inr (5, [.long mtr, .ref a1, .int (zI (ty + cn)), .ref a2, .ref a3, .ref a4, .ref a5, .ref a6, .int (zI mat), .int (zI mst), .int (zI mso), .int (zI mva), .int (zI mfa), .ref a7, .ref a8, .ref a9, .int (zI mlo), .ref a10, .int (zI rm), .ref a11, .ref a12, .int (zI tm), .ref a13, .ref a14, .ref a15, .ref a16, .int (zI tmy), .ref a17])), (a1, .inl (cB, 200, .inl (zA u))), (a2, .inl (cI, 2, .inl (zA pa))), (a3, .inl (cI, 18, .inl (zA ms))), (a4, .inl (cI, 18, .inl (zA ml))), (a5, .inl (cI, 18, .inl (zA mr))), (a6, .inl (cI, 18, .inl (zA mt))), (a7, .inl (cI, 1143, .inl (zA nw))), (a8, .inl (cZ, 2, .inl (zA ik))), (a9, .inl (cI, 9, .inl (zA sd))), (a10, .inl (cI, 9, .inl (zA ra))), (a11, .inl (cI, 9, .inl (zA bg))), (a12, .inl (cI, 4, .inl (zA to))), (a13, .inl (cI, 200, .inl (zA cd))), (a14, .inl (cI, 9, .inl (zA fi))), (a15, .inl (cI, 9, .inl (zA tsz))), (a16, .inl (cI, 9, .inl (zA tcm))), (a17, .inl (cI, 10, .inl (zA mg)))]) (fun u => (u = tyA (fun j => mB8 vv (cn - 1 - j)) ty tx cn.toNat)) := by
  refine MetW.intro (cc := cX6_type) (maxL := 5) (ret := (some .int)) (by decide) rfl (Nat.le_of_ble_eq_true rfl) ?_
  intro p e s m args below meth c A hx hb hr hlocks hml hts hown hP hK hD hS hA hE ls hl
  have hown : s.vm.findClass RX6 = some m.cls := hown
  have hl : lv_has ls 5 [(0, .ref a0), (1, .long vv), (3, .int (zI cn))] := hl
  generalize hRM : ({ frames := 1, cells := 0, slots := 0, locals := 22 } : Room) = RM
  generalize hQQ : MQ below (QW (S := (Int → Int)) (dC, dI) vwCl A (fun u => some (.int (zI (ty + cn)))) (fun u => [(a0, .inr (5, [.long mtr, .ref a1, .int (zI (ty + cn)), .ref a2, .ref a3, .ref a4, .ref a5, .ref a6, .int (zI mat), .int (zI mst), .int (zI mso), .int (zI mva), .int (zI mfa), .ref a7, .ref a8, .ref a9, .int (zI mlo), .ref a10, .int (zI rm), .ref a11, .ref a12, .int (zI tm), .ref a13, .ref a14, .ref a15, .ref a16, .int (zI tmy), .ref a17])), (a1, .inl (cB, 200, .inl (zA u))), (a2, .inl (cI, 2, .inl (zA pa))), (a3, .inl (cI, 18, .inl (zA ms))), (a4, .inl (cI, 18, .inl (zA ml))), (a5, .inl (cI, 18, .inl (zA mr))), (a6, .inl (cI, 18, .inl (zA mt))), (a7, .inl (cI, 1143, .inl (zA nw))), (a8, .inl (cZ, 2, .inl (zA ik))), (a9, .inl (cI, 9, .inl (zA sd))), (a10, .inl (cI, 9, .inl (zA ra))), (a11, .inl (cI, 9, .inl (zA bg))), (a12, .inl (cI, 4, .inl (zA to))), (a13, .inl (cI, 200, .inl (zA cd))), (a14, .inl (cI, 9, .inl (zA fi))), (a15, .inl (cI, 9, .inl (zA tsz))), (a16, .inl (cI, 9, .inl (zA tcm))), (a17, .inl (cI, 10, .inl (zA mg)))]) (fun u => (u = tyA (fun j => mB8 vv (cn - 1 - j)) ty tx cn.toNat))) args s 0 0 A = QQ
  have in_X6 : ∀ w ∈ wsX60, w ∈ wsX6_type := by decide +kernel
  have w_0 := hts (.fieldLink RX6 67 "WallMarblesModel" "typed" "I") (by decide +kernel)
  have w_1 := hts (.fieldLink RX6 7 "WallMarblesModel" "text" "[B") (by decide +kernel)
  have w_2 := hts (.constantLong RX6 71 (255)) (by decide +kernel)
  have cut32 : ∀ (nM : Nat) (i : Int) (tyv : Int) (txv : Int → Int),  ((i + 1).toNat) < nM → (-1 ≤ i ∧ i < cn) → (tyv = ty + (cn - 1 - i)) → (txv = tyA (fun j => mB8 vv (cn - 1 - j)) ty tx (cn - 1 - i).toNat) → ∀ (H : Heap) (locs : List Loc), va_P (dC, dI) vwCl [(a0, .inr (5, [.long mtr, .ref a1, .int (zI tyv), .ref a2, .ref a3, .ref a4, .ref a5, .ref a6, .int (zI mat), .int (zI mst), .int (zI mso), .int (zI mva), .int (zI mfa), .ref a7, .ref a8, .ref a9, .int (zI mlo), .ref a10, .int (zI rm), .ref a11, .ref a12, .int (zI tm), .ref a13, .ref a14, .ref a15, .ref a16, .int (zI tmy), .ref a17])), (a1, .inl (cB, 200, .inl (zA txv))), (a2, .inl (cI, 2, .inl (zA pa))), (a3, .inl (cI, 18, .inl (zA ms))), (a4, .inl (cI, 18, .inl (zA ml))), (a5, .inl (cI, 18, .inl (zA mr))), (a6, .inl (cI, 18, .inl (zA mt))), (a7, .inl (cI, 1143, .inl (zA nw))), (a8, .inl (cZ, 2, .inl (zA ik))), (a9, .inl (cI, 9, .inl (zA sd))), (a10, .inl (cI, 9, .inl (zA ra))), (a11, .inl (cI, 9, .inl (zA bg))), (a12, .inl (cI, 4, .inl (zA to))), (a13, .inl (cI, 200, .inl (zA cd))), (a14, .inl (cI, 9, .inl (zA fi))), (a15, .inl (cI, 9, .inl (zA tsz))), (a16, .inl (cI, 9, .inl (zA tcm))), (a17, .inl (cI, 10, .inl (zA mg)))] H → va_D A [(a0, .inr (5, [.long mtr, .ref a1, .int (zI tyv), .ref a2, .ref a3, .ref a4, .ref a5, .ref a6, .int (zI mat), .int (zI mst), .int (zI mso), .int (zI mva), .int (zI mfa), .ref a7, .ref a8, .ref a9, .int (zI mlo), .ref a10, .int (zI rm), .ref a11, .ref a12, .int (zI tm), .ref a13, .ref a14, .ref a15, .ref a16, .int (zI tmy), .ref a17])), (a1, .inl (cB, 200, .inl (zA txv))), (a2, .inl (cI, 2, .inl (zA pa))), (a3, .inl (cI, 18, .inl (zA ms))), (a4, .inl (cI, 18, .inl (zA ml))), (a5, .inl (cI, 18, .inl (zA mr))), (a6, .inl (cI, 18, .inl (zA mt))), (a7, .inl (cI, 1143, .inl (zA nw))), (a8, .inl (cZ, 2, .inl (zA ik))), (a9, .inl (cI, 9, .inl (zA sd))), (a10, .inl (cI, 9, .inl (zA ra))), (a11, .inl (cI, 9, .inl (zA bg))), (a12, .inl (cI, 4, .inl (zA to))), (a13, .inl (cI, 200, .inl (zA cd))), (a14, .inl (cI, 9, .inl (zA fi))), (a15, .inl (cI, 9, .inl (zA tsz))), (a16, .inl (cI, 9, .inl (zA tcm))), (a17, .inl (cI, 10, .inl (zA mg)))] → va_S A s.heap H locs → ∀ ls : Array Slot, lv_has ls 5 [(0, .ref a0), (1, .long vv), (3, .int (zI cn)), (4, .int (zI i))] → W p l e RM s m args below meth c H locs 0 0 QQ (F0 m 32 ls []) := by
    intro nM
    induction nM with
    | zero => intro i tyv txv hmu; exact absurd hmu (Nat.not_lt_zero _)
    | succ nM ih32 =>
      intro i tyv txv hmu hi hl9 hb9 H locs hP hD hS ls hl
      refine lv_iload hx hb dX6_type_32 (lv_at hl 3 rfl) ?_
      refine zv_if_lt (tgt := 75) hx hb (by omega) dX6_type_34 (by decide) (fun c_34 => ?_) (fun c_34 => ?_)
      · have ei : i = -1 := by omega
        subst ei
        have el : tyv = ty + cn := by omega
        subst el
        refine lv_aload_n hx hb dX6_type_75 rfl (lv_at hl 0 rfl) ?_
        refine va_get (D := (dC, dI)) (ci := 5) (v := .int (zI (ty + cn))) (C := RX6) (T := TX6) (N := 28) hx hb hts in_X6 hown hK hP 0 rfl rfl 2 (by decide) w_0 (fun _ h9 => h9) rfl dX6_type_76 ?_
        rw [← hQQ]
        exact zw_iret hx hb hr hlocks (txv) rfl (by rw [hb9, show cn - 1 - -1 = cn by omega]) hP hS dX6_type_79
      · refine lv_aload_n hx hb dX6_type_37 rfl (lv_at hl 0 rfl) ?_
        refine va_get (D := (dC, dI)) (ci := 5) (v := .ref a1) (C := RX6) (T := TX6) (N := 28) hx hb hts in_X6 hown hK hP 0 rfl rfl 1 (by decide) w_1 (fun _ h9 => h9) rfl dX6_type_38 ?_
        refine lv_aload_n hx hb dX6_type_41 rfl (lv_at hl 0 rfl) ?_
        refine va_get (D := (dC, dI)) (ci := 5) (v := .int (zI tyv)) (C := RX6) (T := TX6) (N := 28) hx hb hts in_X6 hown hK hP 0 rfl rfl 2 (by decide) w_0 (fun _ h9 => h9) rfl dX6_type_42 ?_
        refine lv_lload_n hx hb dX6_type_45 rfl (lv_at hl 1 rfl) ?_
        refine zv_bipush hx hb dX6_type_46 (by decide +kernel) ?_
        refine lv_iload hx hb dX6_type_48 (lv_at hl 3 rfl) ?_
        refine zv_imul hx hb dX6_type_50 ?_
        refine lv_lshr (v := lsA vv i) hx hb dX6_type_51 (rfl) ?_
        refine lv_ldc2 hx hb hown w_2 dX6_type_52 ?_
        refine lv_land hx hb dX6_type_55 ?_
        refine lv_l2i (v := zI ((lsA vv i &&& 255).toInt32.toInt)) hx hb dX6_type_56 ((zI_as _).symm) ?_
        refine lv_i2b (v := zI (mB8 vv i)) hx hb dX6_type_57 (mB8_z) ?_
        refine zv_bast (ws' := [(a0, .inr (5, [.long mtr, .ref a1, .int (zI tyv), .ref a2, .ref a3, .ref a4, .ref a5, .ref a6, .int (zI mat), .int (zI mst), .int (zI mso), .int (zI mva), .int (zI mfa), .ref a7, .ref a8, .ref a9, .int (zI mlo), .ref a10, .int (zI rm), .ref a11, .ref a12, .int (zI tm), .ref a13, .ref a14, .ref a15, .ref a16, .int (zI tmy), .ref a17])), (a1, .inl (cB, 200, .inl (zA (zu txv tyv (mB8 vv i))))), (a2, .inl (cI, 2, .inl (zA pa))), (a3, .inl (cI, 18, .inl (zA ms))), (a4, .inl (cI, 18, .inl (zA ml))), (a5, .inl (cI, 18, .inl (zA mr))), (a6, .inl (cI, 18, .inl (zA mt))), (a7, .inl (cI, 1143, .inl (zA nw))), (a8, .inl (cZ, 2, .inl (zA ik))), (a9, .inl (cI, 9, .inl (zA sd))), (a10, .inl (cI, 9, .inl (zA ra))), (a11, .inl (cI, 9, .inl (zA bg))), (a12, .inl (cI, 4, .inl (zA to))), (a13, .inl (cI, 200, .inl (zA cd))), (a14, .inl (cI, 9, .inl (zA fi))), (a15, .inl (cI, 9, .inl (zA tsz))), (a16, .inl (cI, 9, .inl (zA tcm))), (a17, .inl (cI, 10, .inl (zA mg)))]) hx hb hK hP hD hS 1 1 rfl rfl (by exact mB8_n) (by omega) rfl dX6_type_58 (fun H locs hP hD hS => ?_)
        refine lv_aload_n hx hb dX6_type_59 rfl (lv_at hl 0 rfl) ?_
        refine lv_dup hx hb dX6_type_60 rfl ?_
        refine va_get (D := (dC, dI)) (ci := 5) (v := .int (zI tyv)) (C := RX6) (T := TX6) (N := 28) hx hb hts in_X6 hown hK hP 0 rfl rfl 2 (by decide) w_0 (fun _ h9 => h9) rfl dX6_type_61 ?_
        refine zv_iconst hx hb dX6_type_64 ?_
        refine zv_iadd hx hb dX6_type_65 ?_
        refine va_put (D := (dC, dI)) (ci := 5) (v := .int (zI (tyv + 1))) (ty := .int) (C := RX6) (T := TX6) (N := 28) hx hb hts in_X6 tyX6 tyX6_ok nmX6 hown hK hP hD hS 0 rfl rfl 2 (by decide) w_0 (fun _ h9 => h9) rfl (by decide +kernel) rfl rfl (Nat.le_of_ble_eq_true rfl) dX6_type_66 (fun H locs hP hD hS => ?_)
        have hP : va_P (dC, dI) vwCl [(a0, .inr (5, [.long mtr, .ref a1, .int (zI (tyv + 1)), .ref a2, .ref a3, .ref a4, .ref a5, .ref a6, .int (zI mat), .int (zI mst), .int (zI mso), .int (zI mva), .int (zI mfa), .ref a7, .ref a8, .ref a9, .int (zI mlo), .ref a10, .int (zI rm), .ref a11, .ref a12, .int (zI tm), .ref a13, .ref a14, .ref a15, .ref a16, .int (zI tmy), .ref a17])), (a1, .inl (cB, 200, .inl (zA (zu txv tyv (mB8 vv i))))), (a2, .inl (cI, 2, .inl (zA pa))), (a3, .inl (cI, 18, .inl (zA ms))), (a4, .inl (cI, 18, .inl (zA ml))), (a5, .inl (cI, 18, .inl (zA mr))), (a6, .inl (cI, 18, .inl (zA mt))), (a7, .inl (cI, 1143, .inl (zA nw))), (a8, .inl (cZ, 2, .inl (zA ik))), (a9, .inl (cI, 9, .inl (zA sd))), (a10, .inl (cI, 9, .inl (zA ra))), (a11, .inl (cI, 9, .inl (zA bg))), (a12, .inl (cI, 4, .inl (zA to))), (a13, .inl (cI, 200, .inl (zA cd))), (a14, .inl (cI, 9, .inl (zA fi))), (a15, .inl (cI, 9, .inl (zA tsz))), (a16, .inl (cI, 9, .inl (zA tcm))), (a17, .inl (cI, 10, .inl (zA mg)))] H := hP
        have hD : va_D A [(a0, .inr (5, [.long mtr, .ref a1, .int (zI (tyv + 1)), .ref a2, .ref a3, .ref a4, .ref a5, .ref a6, .int (zI mat), .int (zI mst), .int (zI mso), .int (zI mva), .int (zI mfa), .ref a7, .ref a8, .ref a9, .int (zI mlo), .ref a10, .int (zI rm), .ref a11, .ref a12, .int (zI tm), .ref a13, .ref a14, .ref a15, .ref a16, .int (zI tmy), .ref a17])), (a1, .inl (cB, 200, .inl (zA (zu txv tyv (mB8 vv i))))), (a2, .inl (cI, 2, .inl (zA pa))), (a3, .inl (cI, 18, .inl (zA ms))), (a4, .inl (cI, 18, .inl (zA ml))), (a5, .inl (cI, 18, .inl (zA mr))), (a6, .inl (cI, 18, .inl (zA mt))), (a7, .inl (cI, 1143, .inl (zA nw))), (a8, .inl (cZ, 2, .inl (zA ik))), (a9, .inl (cI, 9, .inl (zA sd))), (a10, .inl (cI, 9, .inl (zA ra))), (a11, .inl (cI, 9, .inl (zA bg))), (a12, .inl (cI, 4, .inl (zA to))), (a13, .inl (cI, 200, .inl (zA cd))), (a14, .inl (cI, 9, .inl (zA fi))), (a15, .inl (cI, 9, .inl (zA tsz))), (a16, .inl (cI, 9, .inl (zA tcm))), (a17, .inl (cI, 10, .inl (zA mg)))] := hD
        refine zv_iinc (k := 3) (a := i) (n := (-1)) (lv' := [(4, .int (zI (i + (-1)))), (0, .ref a0), (1, .long vv), (3, .int (zI cn))]) hx hb dX6_type_69 hl rfl (by decide) rfl (fun ls hl => ?_)
        refine lv_goto (tgt := 32) hx hb dX6_type_72 (by decide) ?_
        exact ih32 (i + (-1)) (tyv + 1) (zu txv tyv (mB8 vv i)) (by omega) (by omega) (by omega) (by rw [show (cn - 1 - (i + (-1))).toNat = (cn - 1 - i).toNat + 1 by omega, hb9, hl9]; exact (tyA_s (by omega)).symm) _ _ hP hD hS _ (lv_sub hl [1, 2, 3, 0] rfl)
  refine lv_iload_n hx hb dX6_type_0 rfl (lv_at hl 2 rfl) ?_
  refine zv_iconst hx hb dX6_type_1 ?_
  refine zv_bipush hx hb dX6_type_2 (by decide +kernel) ?_
  refine zv_callRS (As := [.int (zI cn), .int (zI 1), .int (zI 8)]) (rest := []) ⟨hx, hb, hml, hown, hts⟩ (c_X6_in l dC dI cI cB cZ cn 1 8 (by omega) (by omega) (by omega)) (va_cwS 3 hts gX6_type_X6_in rfl rfl rfl (by decide +kernel) ⟨by rw [← hRM]; first | decide | (dsimp only; omega), by rw [← hRM]; first | decide | (dsimp only; omega)⟩) hP hK [] rfl [0, 1, 2] rfl zN_bl (zN_go hE) rfl hl.1 rfl (Nat.le_of_ble_eq_true rfl) dX6_type_4 ⟨Nat.zero_le _, Nat.zero_le _⟩ ?_
  refine zv_ifne_b (tgt := 12) hx hb dX6_type_7 (by decide) (fun c_7 => ?_) (fun c_7 => ?_)
  · refine lv_aload_n hx hb dX6_type_12 rfl (lv_at hl 0 rfl) ?_
    refine va_get (D := (dC, dI)) (ci := 5) (v := .int (zI ty)) (C := RX6) (T := TX6) (N := 28) hx hb hts in_X6 hown hK hP 0 rfl rfl 2 (by decide) w_0 (fun _ h9 => h9) rfl dX6_type_13 ?_
    refine lv_iload_n hx hb dX6_type_16 rfl (lv_at hl 2 rfl) ?_
    refine zv_iadd hx hb dX6_type_17 ?_
    refine zv_sipush hx hb dX6_type_18 (by decide +kernel) ?_
    refine zv_icmp_le (tgt := 27) hx hb (by omega) (by omega) dX6_type_21 (by decide) (fun c_21 => ?_) (fun c_21 => ?_)
    · refine lv_iload_n hx hb dX6_type_27 rfl (lv_at hl 2 rfl) ?_
      refine zv_iconst hx hb dX6_type_28 ?_
      refine zv_isub hx hb dX6_type_29 ?_
      refine lv_istore (lv' := [(4, .int (zI (cn - 1))), (0, .ref a0), (1, .long vv), (3, .int (zI cn))]) hx hb dX6_type_30 hl (by decide) rfl (fun ls hl => ?_)
      exact cut32 _ (cn - 1) ty tx (Nat.lt_succ_self _) (by omega) (by omega) (by rw [show (cn - 1 - (cn - 1)).toNat = 0 by omega]; rfl) _ _ hP hD hS _ (lv_sub hl [1, 2, 3, 0] rfl)
    · exfalso; omega
  · exfalso; omega
