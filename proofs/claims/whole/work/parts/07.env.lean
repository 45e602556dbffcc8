theorem p8_div {s k : Int} (h : 0 ≤ s ∧ s ≤ 2147483647) : 0 ≤ s / p8 k ∧ s / p8 k ≤ 2147483647 := by
  unfold p8
  repeat' split
  all_goals omega
def zN (U : State) : Prop := va_Nw (.fieldLinkNest RX5 53 RX3 "length" "I" RX5) U ∧ va_Nw (.fieldLinkNest RX3 19 RX0 "size" "I" RX5) U ∧ va_Nw (.fieldLinkNest RX5 78 RX0 "size" "I" RX5) U ∧ va_Nw (.fieldLinkNest RX5 98 RX1 "standing" "I" RX5) U ∧ va_Nw (.fieldLinkNest RX5 116 RX1 "lodged" "I" RX5) U ∧ va_Nw (.fieldLinkNest RX5 113 RX1 "letIn" "I" RX5) U ∧ va_Nw (.fieldLinkNest RX5 129 RX1 "known" "I" RX5) U ∧ va_Nw (.fieldLinkNest RX5 68 RX4 "number" "I" RX5) U
theorem zN_0 {U : State} (h : zN U) : va_Nw (.fieldLinkNest RX5 53 RX3 "length" "I" RX5) U := h.1
theorem zN_1 {U : State} (h : zN U) : va_Nw (.fieldLinkNest RX3 19 RX0 "size" "I" RX5) U := h.2.1
theorem zN_2 {U : State} (h : zN U) : va_Nw (.fieldLinkNest RX5 78 RX0 "size" "I" RX5) U := h.2.2.1
theorem zN_3 {U : State} (h : zN U) : va_Nw (.fieldLinkNest RX5 98 RX1 "standing" "I" RX5) U := h.2.2.2.1
theorem zN_4 {U : State} (h : zN U) : va_Nw (.fieldLinkNest RX5 116 RX1 "lodged" "I" RX5) U := h.2.2.2.2.1
theorem zN_5 {U : State} (h : zN U) : va_Nw (.fieldLinkNest RX5 113 RX1 "letIn" "I" RX5) U := h.2.2.2.2.2.1
theorem zN_6 {U : State} (h : zN U) : va_Nw (.fieldLinkNest RX5 129 RX1 "known" "I" RX5) U := h.2.2.2.2.2.2.1
theorem zN_7 {U : State} (h : zN U) : va_Nw (.fieldLinkNest RX5 68 RX4 "number" "I" RX5) U := h.2.2.2.2.2.2.2
theorem zN_go {s : State} {H : Heap} (h : zN s) : ∀ U : State, U.heap = H → s.WarmedH U.vm → zN U := fun U _ hW => ⟨(zN_0 h).warmF hW, (zN_1 h).warmF hW, (zN_2 h).warmF hW, (zN_3 h).warmF hW, (zN_4 h).warmF hW, (zN_5 h).warmF hW, (zN_6 h).warmF hW, (zN_7 h).warmF hW⟩
theorem zN_bl : zBl zN := fun U g mk a h => ⟨va_Nw.same rfl rfl (zN_0 h), va_Nw.same rfl rfl (zN_1 h), va_Nw.same rfl rfl (zN_2 h), va_Nw.same rfl rfl (zN_3 h), va_Nw.same rfl rfl (zN_4 h), va_Nw.same rfl rfl (zN_5 h), va_Nw.same rfl rfl (zN_6 h), va_Nw.same rfl rfl (zN_7 h)⟩
abbrev zT (cI cB cZ : ClassId) : List (ClassId × FieldType) := [(cI, .int), (cB, .byte), (cZ, .boolean)]
set_option maxHeartbeats 4000000 in
set_option maxRecDepth 100000 in
theorem c_X2_standAt (l : Launch) (dC : Nat → ClassId) (dI : Nat → Nat → Nat) (cI cB cZ : ClassId) (st : Int → Int) (k : Int) (h7 : s7 st) (hk : 0 ≤ k ∧ k < 9) : MetR l yX2_standAt wsX2_standAt ({ frames := 0, cells := 0, slots := 0, locals := 0 }) (dC, dI) vwCl (zT cI cB cZ) zN [] [.int (zI (pk st)), .int (zI k)] (zI (st k)) := by
  refine MetR.intro (cc := cX2_standAt) (maxL := 2) (ret := (some .int)) (by decide) rfl (Nat.le_of_ble_eq_true rfl) ?_
  intro p e s m args below meth c hx hb hr hlocks hml hts hown hP hK hE ls hl
  have hown : s.vm.findClass RX2 = some m.cls := hown
  have hl : lv_has ls 2 [(0, .int (zI (pk st))), (1, .int (zI k))] := hl
  generalize hRM : ({ frames := 0, cells := 0, slots := 0, locals := 0 } : Room) = RM
  generalize hQQ : MQ below (vp_Si (fun r => r = zI (st k))) args s 0 0 (fun _ => False) = QQ
  have hs := pk_rng h7
  refine lv_iload_n hx hb dX2_standAt_0 rfl (lv_at hl 0 rfl) ?_
  refine zv_iconst hx hb dX2_standAt_1 ?_
  refine lv_iload_n hx hb dX2_standAt_2 rfl (lv_at hl 1 rfl) ?_
  refine zv_imul hx hb dX2_standAt_3 ?_
  refine zv_iushr (z := pk st / p8 k) hx hb (zb_ushr (by omega) hk.1 hk.2) dX2_standAt_4 ?_
  refine zv_bipush hx hb dX2_standAt_5 (by decide +kernel) ?_
  refine zv_iand (z := pk st / p8 k % 8) hx hb (zb_mod 3 (by decide +kernel) (by decide) (p8_div (by omega))) dX2_standAt_7 ?_
  rw [← hQQ]
  exact zr_iret hx hb hr hlocks (congrArg zI (show pk st / p8 k % 8 = st k from by exact pk_at h7 hk.1 hk.2)) dX2_standAt_8
set_option maxHeartbeats 4000000 in
set_option maxRecDepth 100000 in
theorem c_X2_withStand (l : Launch) (dC : Nat → ClassId) (dI : Nat → Nat → Nat) (cI cB cZ : ClassId) (st : Int → Int) (k : Int) (v : Int) (h7 : s7 st) (hk : 0 ≤ k ∧ k < 9) (hv : 0 ≤ v ∧ v ≤ 7) : MetR l yX2_withStand wsX2_withStand ({ frames := 0, cells := 0, slots := 0, locals := 0 }) (dC, dI) vwCl (zT cI cB cZ) zN [] [.int (zI (pk st)), .int (zI k), .int (zI v)] (zI (pk (zu st k v))) := by
  refine MetR.intro (cc := cX2_withStand) (maxL := 4) (ret := (some .int)) (by decide) rfl (Nat.le_of_ble_eq_true rfl) ?_
  intro p e s m args below meth c hx hb hr hlocks hml hts hown hP hK hE ls hl
  have hown : s.vm.findClass RX2 = some m.cls := hown
  have hl : lv_has ls 4 [(0, .int (zI (pk st))), (1, .int (zI k)), (2, .int (zI v))] := hl
  generalize hRM : ({ frames := 0, cells := 0, slots := 0, locals := 0 } : Room) = RM
  generalize hQQ : MQ below (vp_Si (fun r => r = zI (pk (zu st k v)))) args s 0 0 (fun _ => False) = QQ
  have hs := pk_rng h7
  refine zv_iconst hx hb dX2_withStand_0 ?_
  refine lv_iload_n hx hb dX2_withStand_1 rfl (lv_at hl 1 rfl) ?_
  refine zv_imul hx hb dX2_withStand_2 ?_
  refine lv_istore_n (lv' := [(3, .int (zI (3 * k))), (0, .int (zI (pk st))), (1, .int (zI k)), (2, .int (zI v))]) hx hb dX2_withStand_3 rfl hl (by decide) rfl (fun ls hl => ?_)
  refine lv_iload_n hx hb dX2_withStand_4 rfl (lv_at hl 1 rfl) ?_
  refine zv_bipush hx hb dX2_withStand_5 (by decide +kernel) ?_
  refine lv_iload_n hx hb dX2_withStand_7 rfl (lv_at hl 0 rfl) ?_
  refine zv_ishl (z := 7 * p8 k) hx hb (zb_shl (by omega) hk.1 hk.2) dX2_withStand_8 ?_
  refine zv_iconst hx hb dX2_withStand_9 ?_
  refine zv_ixor (z := -(7 * p8 k) - 1) hx hb (zb_not hk.1 hk.2) dX2_withStand_10 ?_
  refine zv_iand (z := pk st - pk st / p8 k % 8 * p8 k) hx hb (zb_clr (by omega) hk.1 hk.2) dX2_withStand_11 ?_
  refine lv_iload_n hx hb dX2_withStand_12 rfl (lv_at hl 3 rfl) ?_
  refine lv_iload_n hx hb dX2_withStand_13 rfl (lv_at hl 0 rfl) ?_
  refine zv_ishl (z := v * p8 k) hx hb (zb_shl hv hk.1 hk.2) dX2_withStand_14 ?_
  refine zv_ior (z := pk st + (v - pk st / p8 k % 8) * p8 k) hx hb (zb_put (by omega) hv hk.1 hk.2) dX2_withStand_15 ?_
  rw [← hQQ]
  exact zr_iret hx hb hr hlocks (congrArg zI (show pk st + (v - pk st / p8 k % 8) * p8 k = pk (zu st k v) from by rw [pk_at h7 hk.1 hk.2]; exact pk_up hk.1 hk.2)) dX2_withStand_16
set_option maxHeartbeats 4000000 in
set_option maxRecDepth 100000 in
theorem c_X2_outcome (l : Launch) (dC : Nat → ClassId) (dI : Nat → Nat → Nat) (cI cB cZ : ClassId) (st : Int → Int) (k : Int) (h7 : s7 st) (hk : -9 ≤ k ∧ k ≤ 8) : MetR l yX2_outcome wsX2_outcome ({ frames := 0, cells := 0, slots := 0, locals := 0 }) (dC, dI) vwCl (zT cI cB cZ) zN [] [.int (zI (pk st)), .int (zI k)] (zI (oc (pk st) k)) := by
  refine MetR.intro (cc := cX2_outcome) (maxL := 3) (ret := (some .int)) (by decide) rfl (Nat.le_of_ble_eq_true rfl) ?_
  intro p e s m args below meth c hx hb hr hlocks hml hts hown hP hK hE ls hl
  have hown : s.vm.findClass RX2 = some m.cls := hown
  have hl : lv_has ls 3 [(0, .int (zI (pk st))), (1, .int (zI k))] := hl
  generalize hRM : ({ frames := 0, cells := 0, slots := 0, locals := 0 } : Room) = RM
  generalize hQQ : MQ below (vp_Si (fun r => r = zI (oc (pk st) k))) args s 0 0 (fun _ => False) = QQ
  have hs := pk_rng h7
  refine lv_iload_n hx hb dX2_outcome_0 rfl (lv_at hl 1 rfl) ?_
  refine zv_if_lt (tgt := 10) hx hb (by omega) dX2_outcome_1 (by decide) (fun c_1 => ?_) (fun c_1 => ?_)
  · refine zv_iconst hx hb dX2_outcome_10 ?_
    refine lv_istore_n (lv' := [(2, .int (zI 0)), (0, .int (zI (pk st))), (1, .int (zI k))]) hx hb dX2_outcome_11 rfl hl (by decide) rfl (fun ls hl => ?_)
    refine lv_iload_n hx hb dX2_outcome_12 rfl (lv_at hl 1 rfl) ?_
    refine lv_iload_n hx hb dX2_outcome_13 rfl (lv_at hl 0 rfl) ?_
    refine zv_bipush hx hb dX2_outcome_14 (by decide +kernel) ?_
    refine zv_ishl (z := 0 * 134217728) hx hb (zb_s27 (by omega)) dX2_outcome_16 ?_
    refine zv_ior (z := pk st + 0 * 134217728) hx hb (zb_o27 (by omega) (by omega)) dX2_outcome_17 ?_
    rw [← hQQ]
    exact zr_iret hx hb hr hlocks (congrArg zI (show pk st + 0 * 134217728 = oc (pk st) k from by unfold oc; split <;> omega)) dX2_outcome_18
  · refine lv_iload_n hx hb dX2_outcome_4 rfl (lv_at hl 1 rfl) ?_
    refine zv_iconst hx hb dX2_outcome_5 ?_
    refine zv_iadd hx hb dX2_outcome_6 ?_
    refine lv_goto (tgt := 11) hx hb dX2_outcome_7 (by decide) ?_
    refine lv_istore_n (lv' := [(2, .int (zI (k + 1))), (0, .int (zI (pk st))), (1, .int (zI k))]) hx hb dX2_outcome_11 rfl hl (by decide) rfl (fun ls hl => ?_)
    refine lv_iload_n hx hb dX2_outcome_12 rfl (lv_at hl 1 rfl) ?_
    refine lv_iload_n hx hb dX2_outcome_13 rfl (lv_at hl 0 rfl) ?_
    refine zv_bipush hx hb dX2_outcome_14 (by decide +kernel) ?_
    refine zv_ishl (z := (k + 1) * 134217728) hx hb (zb_s27 (by omega)) dX2_outcome_16 ?_
    refine zv_ior (z := pk st + (k + 1) * 134217728) hx hb (zb_o27 (by omega) (by omega)) dX2_outcome_17 ?_
    rw [← hQQ]
    exact zr_iret hx hb hr hlocks (congrArg zI (show pk st + (k + 1) * 134217728 = oc (pk st) k from by unfold oc; split <;> omega)) dX2_outcome_18
set_option maxHeartbeats 4000000 in
set_option maxRecDepth 100000 in
theorem c_X2_standingOf (l : Launch) (dC : Nat → ClassId) (dI : Nat → Nat → Nat) (cI cB cZ : ClassId) (st : Int → Int) (k : Int) (h7 : s7 st) (hk : -9 ≤ k ∧ k ≤ 8) : MetR l yX2_standingOf wsX2_standingOf ({ frames := 0, cells := 0, slots := 0, locals := 0 }) (dC, dI) vwCl (zT cI cB cZ) zN [] [.int (zI (oc (pk st) k))] (zI (pk st)) := by
  refine MetR.intro (cc := cX2_standingOf) (maxL := 1) (ret := (some .int)) (by decide) rfl (Nat.le_of_ble_eq_true rfl) ?_
  intro p e s m args below meth c hx hb hr hlocks hml hts hown hP hK hE ls hl
  have hown : s.vm.findClass RX2 = some m.cls := hown
  have hl : lv_has ls 1 [(0, .int (zI (oc (pk st) k)))] := hl
  generalize hRM : ({ frames := 0, cells := 0, slots := 0, locals := 0 } : Room) = RM
  generalize hQQ : MQ below (vp_Si (fun r => r = zI (pk st))) args s 0 0 (fun _ => False) = QQ
  have w_0 := hts (.constant RX2 11 (134217727)) (by decide +kernel)
  have hs := pk_rng h7
  have ho := oc_rng hs hk.2
  refine lv_iload_n hx hb dX2_standingOf_0 rfl (lv_at hl 0 rfl) ?_
  refine zv_ldc (n := 134217727) hx hb hown w_0 (by decide +kernel) dX2_standingOf_1 ?_
  refine zv_iand (z := oc (pk st) k % 134217728) hx hb (zb_mod 27 (by decide +kernel) (by decide) ho) dX2_standingOf_3 ?_
  rw [← hQQ]
  exact zr_iret hx hb hr hlocks (congrArg zI (show oc (pk st) k % 134217728 = pk st from by exact oc_s hs)) dX2_standingOf_4
set_option maxHeartbeats 4000000 in
set_option maxRecDepth 100000 in
theorem c_X2_comesOf (l : Launch) (dC : Nat → ClassId) (dI : Nat → Nat → Nat) (cI cB cZ : ClassId) (st : Int → Int) (k : Int) (h7 : s7 st) (hk : k = -9 ∨ (0 ≤ k ∧ k ≤ 8)) : MetR l yX2_comesOf wsX2_comesOf ({ frames := 0, cells := 0, slots := 0, locals := 0 }) (dC, dI) vwCl (zT cI cB cZ) zN [] [.int (zI (oc (pk st) k))] (zI k) := by
  refine MetR.intro (cc := cX2_comesOf) (maxL := 2) (ret := (some .int)) (by decide) rfl (Nat.le_of_ble_eq_true rfl) ?_
  intro p e s m args below meth c hx hb hr hlocks hml hts hown hP hK hE ls hl
  have hown : s.vm.findClass RX2 = some m.cls := hown
  have hl : lv_has ls 2 [(0, .int (zI (oc (pk st) k)))] := hl
  generalize hRM : ({ frames := 0, cells := 0, slots := 0, locals := 0 } : Room) = RM
  generalize hQQ : MQ below (vp_Si (fun r => r = zI k)) args s 0 0 (fun _ => False) = QQ
  have hs := pk_rng h7
  have ho := oc_rng hs (show k ≤ 8 by omega)
  have hc := oc_c hs (show k = -9 ∨ 0 ≤ k by omega)
  unfold cmO at hc
  refine lv_iload_n hx hb dX2_comesOf_0 rfl (lv_at hl 0 rfl) ?_
  refine zv_bipush hx hb dX2_comesOf_1 (by decide +kernel) ?_
  refine zv_iushr (z := oc (pk st) k / 134217728) hx hb (zb_u27 ho) dX2_comesOf_3 ?_
  refine lv_istore_n (lv' := [(1, .int (zI (oc (pk st) k / 134217728))), (0, .int (zI (oc (pk st) k)))]) hx hb dX2_comesOf_4 rfl hl (by decide) rfl (fun ls hl => ?_)
  refine lv_iload_n hx hb dX2_comesOf_5 rfl (lv_at hl 0 rfl) ?_
  refine zv_if_ne (tgt := 14) hx hb (by omega) dX2_comesOf_6 (by decide) (fun c_6 => ?_) (fun c_6 => ?_)
  · refine lv_iload_n hx hb dX2_comesOf_14 rfl (lv_at hl 0 rfl) ?_
    refine zv_iconst hx hb dX2_comesOf_15 ?_
    refine zv_isub hx hb dX2_comesOf_16 ?_
    rw [← hQQ]
    exact zr_iret hx hb hr hlocks (congrArg zI (show (oc (pk st) k / 134217728) - 1 = k from by first | (rw [if_pos (by omega)] at hc; exact hc) | (rw [if_neg (by omega)] at hc; exact hc))) dX2_comesOf_17
  · refine zv_bipush hx hb dX2_comesOf_9 (by decide +kernel) ?_
    refine lv_goto (tgt := 17) hx hb dX2_comesOf_11 (by decide) ?_
    rw [← hQQ]
    exact zr_iret hx hb hr hlocks (congrArg zI (show (-9) = k from by first | (rw [if_pos (by omega)] at hc; exact hc) | (rw [if_neg (by omega)] at hc; exact hc))) dX2_comesOf_17
