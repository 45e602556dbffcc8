set_option maxHeartbeats 4000000 in
set_option maxRecDepth 100000 in
theorem c_X6_now (l : Launch) (dC : Nat → ClassId) (dI : Nat → Nat → Nat) (cI cB cZ : ClassId) (a0 : Nat) (a1 : Nat) (a2 : Nat) (a3 : Nat) (a4 : Nat) (a5 : Nat) (a6 : Nat) (a7 : Nat) (a8 : Nat) (a9 : Nat) (a10 : Nat) (a11 : Nat) (a12 : Nat) (a13 : Nat) (a14 : Nat) (a15 : Nat) (a16 : Nat) (a17 : Nat) (mtr : Int64) (tx : Int → Int) (ty : Int) (pa : Int → Int) (ms : Int → Int) (ml : Int → Int) (mr : Int → Int) (mt : Int → Int) (mat : Int) (mst : Int) (mso : Int) (mva : Int) (mfa : Int) (nw : Int → Int) (ik : Int → Int) (sd : Int → Int) (mlo : Int) (ra : Int → Int) (rm : Int) (bg : Int → Int) (to : Int → Int) (tm : Int) (cd : Int → Int) (fi : Int → Int) (tsz : Int → Int) (tcm : Int → Int) (tmy : Int) (mg : Int → Int) (w : Int) (hh : hOk (pa 0) ms ml mr mt) (hs : sOk (pa 0) ms mt nw) (hwr : -2147483648 ≤ w ∧ w ≤ 2147483647) : MetR l yX6_now wsX6_now ({ frames := 0, cells := 0, slots := 0, locals := 0 }) (dC, dI) vwCl (zT cI cB cZ) zN [(a0, .inr (5, [.long mtr, .ref a1, .int (zI ty), .ref a2, .ref a3, .ref a4, .ref a5, .ref a6, .int (zI mat), .int (zI mst), .int (zI mso), .int (zI mva), .int (zI mfa), .ref a7, .ref a8, .ref a9, .int (zI mlo), .ref a10, .int (zI rm), .ref a11, .ref a12, .int (zI tm), .ref a13, .ref a14, .ref a15, .ref a16, .int (zI tmy), .ref a17])), (a1, .inl (cB, 200, .inl (zA tx))), (a2, .inl (cI, 2, .inl (zA pa))), (a3, .inl (cI, 18, .inl (zA ms))), (a4, .inl (cI, 18, .inl (zA ml))), (a5, .inl (cI, 18, .inl (zA mr))), (a6, .inl (cI, 18, .inl (zA mt))), (a7, .inl (cI, 1143, .inl (zA nw))), (a8, .inl (cZ, 2, .inl (zA ik))), (a9, .inl (cI, 9, .inl (zA sd))), (a10, .inl (cI, 9, .inl (zA ra))), (a11, .inl (cI, 9, .inl (zA bg))), (a12, .inl (cI, 4, .inl (zA to))), (a13, .inl (cI, 200, .inl (zA cd))), (a14, .inl (cI, 9, .inl (zA fi))), (a15, .inl (cI, 9, .inl (zA tsz))), (a16, .inl (cI, 9, .inl (zA tcm))), (a17, .inl (cI, 10, .inl (zA mg)))] [.ref a0, .int (zI w)] (zI (q_nowM (pa 0) ms nw w)) := by
  refine MetR.intro (cc := cX6_now) (maxL := 5) (ret := (some .int)) (by decide) rfl (Nat.le_of_ble_eq_true rfl) ?_
  intro p e s m args below meth c hx hb hr hlocks hml hts hown hP hK hE ls hl
  have hown : s.vm.findClass RX6 = some m.cls := hown
  have hl : lv_has ls 5 [(0, .ref a0), (1, .int (zI w))] := hl
  generalize hRM : ({ frames := 0, cells := 0, slots := 0, locals := 0 } : Room) = RM
  generalize hQQ : MQ below (vp_Si (fun r => r = zI (q_nowM (pa 0) ms nw w))) args s 0 0 (fun _ => False) = QQ
  have in_X6 : ∀ w ∈ wsX60, w ∈ wsX6_now := by decide +kernel
  have w_0 := hts (.fieldLink RX6 13 "WallMarblesModel" "parts" "[I") (by decide +kernel)
  have w_1 := hts (.fieldLink RX6 29 "WallMarblesModel" "now" "[I") (by decide +kernel)
  have w_2 := hts (.fieldLink RX6 17 "WallMarblesModel" "sorts" "[I") (by decide +kernel)
  have hn := hh.1
  have cut7 : ∀ (nM : Nat) (ld : Int) (hd : Int) (k : Int),  ((pa 0 - k).toNat) < nM → (0 ≤ k ∧ k ≤ pa 0) → (ld = sF (fun j => nw (9 + j)) k.toNat) → (hd = sF (gC ms nw) k.toNat) → ∀ ls : Array Slot, lv_has ls 5 [(0, .ref a0), (1, .int (zI w)), (2, .int (zI ld)), (3, .int (zI hd)), (4, .int (zI k))] → W p l e RM s m args below meth c s.heap [] 0 0 QQ (F0 m 7 ls []) := by
    intro nM
    induction nM with
    | zero => intro ld hd k hmu; exact absurd hmu (Nat.not_lt_zero _)
    | succ nM ih7 =>
      intro ld hd k hmu hk hc1 hc2 ls hl
      refine lv_iload hx hb dX6_now_7 (lv_at hl 4 rfl) ?_
      refine lv_aload_n hx hb dX6_now_9 rfl (lv_at hl 0 rfl) ?_
      refine va_get (D := (dC, dI)) (ci := 5) (v := .ref a2) (C := RX6) (T := TX6) (N := 28) hx hb hts in_X6 hown hK hP 0 rfl rfl 3 (by decide) w_0 (fun _ h9 => h9) rfl dX6_now_10 ?_
      refine zv_iconst hx hb dX6_now_13 ?_
      refine zv_iald hx hb hK hP 2 0 rfl rfl (by omega) dX6_now_14 ?_
      refine zv_icmp_ge (tgt := 66) hx hb (by omega) (by omega) dX6_now_15 (by decide) (fun c_15 => ?_) (fun c_15 => ?_)
      · have ek : k = pa 0 := by omega
        rw [ek] at hc1 hc2
        refine lv_iload_n hx hb dX6_now_66 rfl (lv_at hl 1 rfl) ?_
        refine zv_if_ne (tgt := 80) hx hb (by omega) dX6_now_67 (by decide) (fun c_67 => ?_) (fun c_67 => ?_)
        · refine lv_iload_n hx hb dX6_now_80 rfl (lv_at hl 1 rfl) ?_
          refine zv_iconst hx hb dX6_now_81 ?_
          refine zv_icmp_ne (tgt := 89) hx hb (by omega) (by omega) dX6_now_82 (by decide) (fun c_82 => ?_) (fun c_82 => ?_)
          · refine lv_iload_n hx hb dX6_now_89 rfl (lv_at hl 1 rfl) ?_
            refine zv_iconst hx hb dX6_now_90 ?_
            refine zv_icmp_ne (tgt := 104) hx hb (by omega) (by omega) dX6_now_91 (by decide) (fun c_91 => ?_) (fun c_91 => ?_)
            · refine lv_iload_n hx hb dX6_now_104 rfl (lv_at hl 1 rfl) ?_
              refine zv_iconst hx hb dX6_now_105 ?_
              refine zv_icmp_ne (tgt := 113) hx hb (by omega) (by omega) dX6_now_106 (by decide) (fun c_106 => ?_) (fun c_106 => ?_)
              · refine zv_iconst hx hb dX6_now_113 ?_
                rw [← hQQ]
                exact zr_iret hx hb hr hlocks (congrArg zI (show (-1) = q_nowM (pa 0) ms nw w from by unfold q_nowM; (repeat' split) <;> first | rfl | omega)) dX6_now_114
              · refine lv_iload_n hx hb dX6_now_109 rfl (lv_at hl 3 rfl) ?_
                refine lv_goto (tgt := 114) hx hb dX6_now_110 (by decide) ?_
                rw [← hQQ]
                exact zr_iret hx hb hr hlocks (congrArg zI (show hd = q_nowM (pa 0) ms nw w from by unfold q_nowM; (repeat' split) <;> first | rfl | omega)) dX6_now_114
            · refine lv_aload_n hx hb dX6_now_94 rfl (lv_at hl 0 rfl) ?_
              refine va_get (D := (dC, dI)) (ci := 5) (v := .ref a7) (C := RX6) (T := TX6) (N := 28) hx hb hts in_X6 hown hK hP 0 rfl rfl 13 (by decide) w_1 (fun _ h9 => h9) rfl dX6_now_95 ?_
              refine zv_bipush hx hb dX6_now_98 (by decide +kernel) ?_
              refine zv_iald hx hb hK hP 7 0 rfl rfl (by omega) dX6_now_100 ?_
              refine lv_goto (tgt := 114) hx hb dX6_now_101 (by decide) ?_
              rw [← hQQ]
              exact zr_iret hx hb hr hlocks (congrArg zI (show nw 18 = q_nowM (pa 0) ms nw w from by unfold q_nowM; (repeat' split) <;> first | rfl | omega)) dX6_now_114
          · refine lv_iload_n hx hb dX6_now_85 rfl (lv_at hl 2 rfl) ?_
            refine lv_goto (tgt := 114) hx hb dX6_now_86 (by decide) ?_
            rw [← hQQ]
            exact zr_iret hx hb hr hlocks (congrArg zI (show ld = q_nowM (pa 0) ms nw w from by unfold q_nowM; (repeat' split) <;> first | rfl | omega)) dX6_now_114
        · refine lv_aload_n hx hb dX6_now_70 rfl (lv_at hl 0 rfl) ?_
          refine va_get (D := (dC, dI)) (ci := 5) (v := .ref a7) (C := RX6) (T := TX6) (N := 28) hx hb hts in_X6 hown hK hP 0 rfl rfl 13 (by decide) w_1 (fun _ h9 => h9) rfl dX6_now_71 ?_
          refine zv_bipush hx hb dX6_now_74 (by decide +kernel) ?_
          refine zv_iald hx hb hK hP 7 0 rfl rfl (by omega) dX6_now_76 ?_
          refine lv_goto (tgt := 114) hx hb dX6_now_77 (by decide) ?_
          rw [← hQQ]
          exact zr_iret hx hb hr hlocks (congrArg zI (show nw 19 = q_nowM (pa 0) ms nw w from by unfold q_nowM; (repeat' split) <;> first | rfl | omega)) dX6_now_114
      · have z1 := (hh.2 k (by omega) (by omega)).1
        have z2 := sOk_lt hh hs (k := k) (by omega) (by omega)
        refine lv_iload_n hx hb dX6_now_18 rfl (lv_at hl 2 rfl) ?_
        refine lv_aload_n hx hb dX6_now_19 rfl (lv_at hl 0 rfl) ?_
        refine va_get (D := (dC, dI)) (ci := 5) (v := .ref a7) (C := RX6) (T := TX6) (N := 28) hx hb hts in_X6 hown hK hP 0 rfl rfl 13 (by decide) w_1 (fun _ h9 => h9) rfl dX6_now_20 ?_
        refine zv_bipush hx hb dX6_now_23 (by decide +kernel) ?_
        refine lv_iload hx hb dX6_now_25 (lv_at hl 4 rfl) ?_
        refine zv_iadd hx hb dX6_now_27 ?_
        refine zv_iald hx hb hK hP 7 0 rfl rfl (by omega) dX6_now_28 ?_
        refine zv_iadd hx hb dX6_now_29 ?_
        refine lv_istore_n (lv' := [(2, .int (zI (ld + (nw (9 + k))))), (0, .ref a0), (1, .int (zI w)), (3, .int (zI hd)), (4, .int (zI k))]) hx hb dX6_now_30 rfl hl (by decide) rfl (fun ls hl => ?_)
        refine lv_iload_n hx hb dX6_now_31 rfl (lv_at hl 3 rfl) ?_
        refine lv_aload_n hx hb dX6_now_32 rfl (lv_at hl 1 rfl) ?_
        refine va_get (D := (dC, dI)) (ci := 5) (v := .ref a3) (C := RX6) (T := TX6) (N := 28) hx hb hts in_X6 hown hK hP 0 rfl rfl 4 (by decide) w_2 (fun _ h9 => h9) rfl dX6_now_33 ?_
        refine lv_iload hx hb dX6_now_36 (lv_at hl 4 rfl) ?_
        refine zv_iald hx hb hK hP 3 0 rfl rfl (by omega) dX6_now_38 ?_
        refine zv_iconst hx hb dX6_now_39 ?_
        refine zv_icmp_ne (tgt := 57) hx hb (by omega) (by omega) dX6_now_40 (by decide) (fun c_40 => ?_) (fun c_40 => ?_)
        · refine zv_iconst hx hb dX6_now_57 ?_
          refine zv_iadd hx hb dX6_now_58 ?_
          refine lv_istore_n (lv' := [(3, .int (zI (hd + 0))), (2, .int (zI (ld + (nw (9 + k))))), (0, .ref a0), (1, .int (zI w)), (4, .int (zI k))]) hx hb dX6_now_59 rfl hl (by decide) rfl (fun ls hl => ?_)
          refine zv_iinc (k := 4) (a := k) (n := 1) (lv' := [(4, .int (zI (k + 1))), (3, .int (zI (hd + 0))), (2, .int (zI (ld + (nw (9 + k))))), (0, .ref a0), (1, .int (zI w))]) hx hb dX6_now_60 hl rfl (by decide) rfl (fun ls hl => ?_)
          refine lv_goto (tgt := 7) hx hb dX6_now_63 (by decide) ?_
          exact ih7 (ld + (nw (9 + k))) (hd + 0) (k + 1) (by omega) (by omega) (by rw [sF_s _ (by omega), ← hc1]) (by rw [sF_s _ (by omega), ← hc2]; unfold gC; split <;> omega) _ (lv_sub hl [3, 4, 2, 1, 0] rfl)
        · refine lv_aload_n hx hb dX6_now_43 rfl (lv_at hl 1 rfl) ?_
          refine va_get (D := (dC, dI)) (ci := 5) (v := .ref a7) (C := RX6) (T := TX6) (N := 28) hx hb hts in_X6 hown hK hP 0 rfl rfl 13 (by decide) w_1 (fun _ h9 => h9) rfl dX6_now_44 ?_
          refine lv_iload hx hb dX6_now_47 (lv_at hl 4 rfl) ?_
          refine zv_iald hx hb hK hP 7 0 rfl rfl (by omega) dX6_now_49 ?_
          refine zv_if_le (tgt := 57) hx hb (by omega) dX6_now_50 (by decide) (fun c_50 => ?_) (fun c_50 => ?_)
          · refine zv_iconst hx hb dX6_now_57 ?_
            refine zv_iadd hx hb dX6_now_58 ?_
            refine lv_istore_n (lv' := [(3, .int (zI (hd + 0))), (2, .int (zI (ld + (nw (9 + k))))), (0, .ref a0), (1, .int (zI w)), (4, .int (zI k))]) hx hb dX6_now_59 rfl hl (by decide) rfl (fun ls hl => ?_)
            refine zv_iinc (k := 4) (a := k) (n := 1) (lv' := [(4, .int (zI (k + 1))), (3, .int (zI (hd + 0))), (2, .int (zI (ld + (nw (9 + k))))), (0, .ref a0), (1, .int (zI w))]) hx hb dX6_now_60 hl rfl (by decide) rfl (fun ls hl => ?_)
            refine lv_goto (tgt := 7) hx hb dX6_now_63 (by decide) ?_
            exact ih7 (ld + (nw (9 + k))) (hd + 0) (k + 1) (by omega) (by omega) (by rw [sF_s _ (by omega), ← hc1]) (by rw [sF_s _ (by omega), ← hc2]; unfold gC; split <;> omega) _ (lv_sub hl [3, 4, 2, 1, 0] rfl)
          · refine zv_iconst hx hb dX6_now_53 ?_
            refine lv_goto (tgt := 58) hx hb dX6_now_54 (by decide) ?_
            refine zv_iadd hx hb dX6_now_58 ?_
            refine lv_istore_n (lv' := [(3, .int (zI (hd + 1))), (2, .int (zI (ld + (nw (9 + k))))), (0, .ref a0), (1, .int (zI w)), (4, .int (zI k))]) hx hb dX6_now_59 rfl hl (by decide) rfl (fun ls hl => ?_)
            refine zv_iinc (k := 4) (a := k) (n := 1) (lv' := [(4, .int (zI (k + 1))), (3, .int (zI (hd + 1))), (2, .int (zI (ld + (nw (9 + k))))), (0, .ref a0), (1, .int (zI w))]) hx hb dX6_now_60 hl rfl (by decide) rfl (fun ls hl => ?_)
            refine lv_goto (tgt := 7) hx hb dX6_now_63 (by decide) ?_
            exact ih7 (ld + (nw (9 + k))) (hd + 1) (k + 1) (by omega) (by omega) (by rw [sF_s _ (by omega), ← hc1]) (by rw [sF_s _ (by omega), ← hc2]; unfold gC; split <;> omega) _ (lv_sub hl [3, 4, 2, 1, 0] rfl)
  refine zv_iconst hx hb dX6_now_0 ?_
  refine lv_istore_n (lv' := [(2, .int (zI 0)), (0, .ref a0), (1, .int (zI w))]) hx hb dX6_now_1 rfl hl (by decide) rfl (fun ls hl => ?_)
  refine zv_iconst hx hb dX6_now_2 ?_
  refine lv_istore_n (lv' := [(3, .int (zI 0)), (2, .int (zI 0)), (0, .ref a0), (1, .int (zI w))]) hx hb dX6_now_3 rfl hl (by decide) rfl (fun ls hl => ?_)
  refine zv_iconst hx hb dX6_now_4 ?_
  refine lv_istore (lv' := [(4, .int (zI 0)), (3, .int (zI 0)), (2, .int (zI 0)), (0, .ref a0), (1, .int (zI w))]) hx hb dX6_now_5 hl (by decide) rfl (fun ls hl => ?_)
  exact cut7 _ 0 0 0 (Nat.lt_succ_self _) (by omega) (by rfl) (by rfl) _ (lv_sub hl [3, 4, 2, 1, 0] rfl)
set_option maxHeartbeats 4000000 in
set_option maxRecDepth 100000 in
theorem c_X6_triedN (l : Launch) (dC : Nat → ClassId) (dI : Nat → Nat → Nat) (cI cB cZ : ClassId) (a0 : Nat) (a1 : Nat) (a2 : Nat) (a3 : Nat) (a4 : Nat) (a5 : Nat) (a6 : Nat) (a7 : Nat) (a8 : Nat) (a9 : Nat) (a10 : Nat) (a11 : Nat) (a12 : Nat) (a13 : Nat) (a14 : Nat) (a15 : Nat) (a16 : Nat) (a17 : Nat) (mtr : Int64) (tx : Int → Int) (ty : Int) (pa : Int → Int) (ms : Int → Int) (ml : Int → Int) (mr : Int → Int) (mt : Int → Int) (mat : Int) (mst : Int) (mso : Int) (mva : Int) (mfa : Int) (nw : Int → Int) (ik : Int → Int) (sd : Int → Int) (mlo : Int) (ra : Int → Int) (rm : Int) (bg : Int → Int) (to : Int → Int) (tm : Int) (cd : Int → Int) (fi : Int → Int) (tsz : Int → Int) (tcm : Int → Int) (tmy : Int) (mg : Int → Int) (sz : Int) (cm : Int) (hh : hOk (pa 0) ms ml mr mt) (htn : 0 ≤ tmy ∧ tmy ≤ 9) (hsz : -2147483648 ≤ sz ∧ sz ≤ 2147483647) (hcm : -2147483648 ≤ cm ∧ cm ≤ 2147483647) (hno : ¬ (((sz = 0 ∨ sz = 1) ∧ (cm = -9 ∨ ((0 ≤ cm ∧ cm < pa 0) ∧ ms cm = 0))) ∧ tmy < 9)) : MetR l yX6_tried wsX6_tried ({ frames := 2, cells := 0, slots := 0, locals := 43 }) (dC, dI) vwCl (zT cI cB cZ) zN [(a0, .inr (5, [.long mtr, .ref a1, .int (zI ty), .ref a2, .ref a3, .ref a4, .ref a5, .ref a6, .int (zI mat), .int (zI mst), .int (zI mso), .int (zI mva), .int (zI mfa), .ref a7, .ref a8, .ref a9, .int (zI mlo), .ref a10, .int (zI rm), .ref a11, .ref a12, .int (zI tm), .ref a13, .ref a14, .ref a15, .ref a16, .int (zI tmy), .ref a17])), (a1, .inl (cB, 200, .inl (zA tx))), (a2, .inl (cI, 2, .inl (zA pa))), (a3, .inl (cI, 18, .inl (zA ms))), (a4, .inl (cI, 18, .inl (zA ml))), (a5, .inl (cI, 18, .inl (zA mr))), (a6, .inl (cI, 18, .inl (zA mt))), (a7, .inl (cI, 1143, .inl (zA nw))), (a8, .inl (cZ, 2, .inl (zA ik))), (a9, .inl (cI, 9, .inl (zA sd))), (a10, .inl (cI, 9, .inl (zA ra))), (a11, .inl (cI, 9, .inl (zA bg))), (a12, .inl (cI, 4, .inl (zA to))), (a13, .inl (cI, 200, .inl (zA cd))), (a14, .inl (cI, 9, .inl (zA fi))), (a15, .inl (cI, 9, .inl (zA tsz))), (a16, .inl (cI, 9, .inl (zA tcm))), (a17, .inl (cI, 10, .inl (zA mg)))] [.ref a0, .int (zI sz), .int (zI cm)] (zI (q_triN (pa 0) ms tmy sz cm)) := by
  refine MetR.intro (cc := cX6_tried) (maxL := 3) (ret := (some .int)) (by decide) rfl (Nat.le_of_ble_eq_true rfl) ?_
  intro p e s m args below meth c hx hb hr hlocks hml hts hown hP hK hE ls hl
  have hown : s.vm.findClass RX6 = some m.cls := hown
  have hl : lv_has ls 3 [(0, .ref a0), (1, .int (zI sz)), (2, .int (zI cm))] := hl
  generalize hRM : ({ frames := 2, cells := 0, slots := 0, locals := 43 } : Room) = RM
  generalize hQQ : MQ below (vp_Si (fun r => r = zI (q_triN (pa 0) ms tmy sz cm))) args s 0 0 (fun _ => False) = QQ
  have in_X6 : ∀ w ∈ wsX60, w ∈ wsX6_tried := by decide +kernel
  have w_0 := hts (.fieldLink RX6 109 "WallMarblesModel" "triedMany" "I") (by decide +kernel)
  have w_1 := hts (.fieldLink RX6 17 "WallMarblesModel" "sorts" "[I") (by decide +kernel)
  have hn := hh.1
  refine lv_iload_n hx hb dX6_tried_0 rfl (lv_at hl 1 rfl) ?_
  refine zv_iconst hx hb dX6_tried_1 ?_
  refine zv_iconst hx hb dX6_tried_2 ?_
  refine zv_callRS (As := [.int (zI sz), .int (zI 0), .int (zI 1)]) (rest := []) ⟨hx, hb, hml, hown, hts⟩ (c_X6_in l dC dI cI cB cZ sz 0 1 (by omega) (by omega) (by omega)) (va_cwS 3 hts gX6_tried_X6_in rfl rfl rfl (by decide +kernel) ⟨by rw [← hRM]; first | decide | (dsimp only; omega), by rw [← hRM]; first | decide | (dsimp only; omega)⟩) hP hK [] rfl [0, 1, 2] rfl zN_bl (zN_go hE) rfl hl.1 rfl (Nat.le_of_ble_eq_true rfl) dX6_tried_3 ⟨Nat.zero_le _, Nat.zero_le _⟩ ?_
  refine zv_ifeq_b (tgt := 32) hx hb dX6_tried_6 (by decide) (fun c_6 => ?_) (fun c_6 => ?_)
  · refine zv_iconst hx hb dX6_tried_32 ?_
    rw [← hQQ]
    exact zr_iret hx hb hr hlocks (congrArg zI (show (-1) = q_triN (pa 0) ms tmy sz cm from by unfold q_triN; (repeat' split) <;> first | rfl | omega)) dX6_tried_33
  · refine lv_iload_n hx hb dX6_tried_9 rfl (lv_at hl 2 rfl) ?_
    refine zv_bipush hx hb dX6_tried_10 (by decide +kernel) ?_
    refine zv_icmp_eq (tgt := 34) hx hb (by omega) (by omega) dX6_tried_12 (by decide) (fun c_12 => ?_) (fun c_12 => ?_)
    · refine lv_aload_n hx hb dX6_tried_34 rfl (lv_at hl 0 rfl) ?_
      refine va_get (D := (dC, dI)) (ci := 5) (v := .int (zI tmy)) (C := RX6) (T := TX6) (N := 28) hx hb hts in_X6 hown hK hP 0 rfl rfl 26 (by decide) w_0 (fun _ h9 => h9) rfl dX6_tried_35 ?_
      refine zv_bipush hx hb dX6_tried_38 (by decide +kernel) ?_
      refine zv_icmp_ne (tgt := 46) hx hb (by omega) (by omega) dX6_tried_40 (by decide) (fun c_40 => ?_) (fun c_40 => ?_)
      · exfalso; omega
      · refine zv_bipush hx hb dX6_tried_43 (by decide +kernel) ?_
        rw [← hQQ]
        exact zr_iret hx hb hr hlocks (congrArg zI (show (-3) = q_triN (pa 0) ms tmy sz cm from by unfold q_triN; (repeat' split) <;> first | rfl | omega)) dX6_tried_45
    · refine lv_aload_n hx hb dX6_tried_15 rfl (lv_at hl 0 rfl) ?_
      refine lv_iload_n hx hb dX6_tried_16 rfl (lv_at hl 2 rfl) ?_
      refine zv_callRVa (As := [.int (zI cm)]) (rest := []) ⟨hx, hb, hml, hown, hts⟩ (c_X6_isPart l dC dI cI cB cZ a0 a1 a2 a3 a4 a5 a6 a7 a8 a9 a10 a11 a12 a13 a14 a15 a16 a17 mtr tx ty pa ms ml mr mt mat mst mso mva mfa nw ik sd mlo ra rm bg to tm cd fi tsz tcm tmy mg cm (by omega) (by omega)) (cwV 1 hts gX6_tried_X6_isPart rfl rfl rfl (by decide +kernel) ⟨by rw [← hRM]; first | decide | (dsimp only; omega), by rw [← hRM]; first | decide | (dsimp only; omega)⟩) hP hK zN_bl (zN_go hE) (q0 := 0) rfl rfl rfl rfl hl.1 rfl (Nat.le_of_ble_eq_true rfl) dX6_tried_17 ⟨Nat.zero_le _, Nat.zero_le _⟩ ?_
      refine zv_ifeq_b (tgt := 32) hx hb dX6_tried_20 (by decide) (fun c_20 => ?_) (fun c_20 => ?_)
      · refine zv_iconst hx hb dX6_tried_32 ?_
        rw [← hQQ]
        exact zr_iret hx hb hr hlocks (congrArg zI (show (-1) = q_triN (pa 0) ms tmy sz cm from by unfold q_triN; (repeat' split) <;> first | rfl | omega)) dX6_tried_33
      · refine lv_aload_n hx hb dX6_tried_23 rfl (lv_at hl 0 rfl) ?_
        refine va_get (D := (dC, dI)) (ci := 5) (v := .ref a3) (C := RX6) (T := TX6) (N := 28) hx hb hts in_X6 hown hK hP 0 rfl rfl 4 (by decide) w_1 (fun _ h9 => h9) rfl dX6_tried_24 ?_
        refine lv_iload_n hx hb dX6_tried_27 rfl (lv_at hl 2 rfl) ?_
        have z1 := (hh.2 cm c_20.1 c_20.2).1
        refine zv_iald hx hb hK hP 3 0 rfl rfl (by omega) dX6_tried_28 ?_
        refine zv_if_eq (tgt := 34) hx hb (by omega) dX6_tried_29 (by decide) (fun c_29 => ?_) (fun c_29 => ?_)
        · refine lv_aload_n hx hb dX6_tried_34 rfl (lv_at hl 0 rfl) ?_
          refine va_get (D := (dC, dI)) (ci := 5) (v := .int (zI tmy)) (C := RX6) (T := TX6) (N := 28) hx hb hts in_X6 hown hK hP 0 rfl rfl 26 (by decide) w_0 (fun _ h9 => h9) rfl dX6_tried_35 ?_
          refine zv_bipush hx hb dX6_tried_38 (by decide +kernel) ?_
          refine zv_icmp_ne (tgt := 46) hx hb (by omega) (by omega) dX6_tried_40 (by decide) (fun c_40 => ?_) (fun c_40 => ?_)
          · exfalso; omega
          · refine zv_bipush hx hb dX6_tried_43 (by decide +kernel) ?_
            rw [← hQQ]
            exact zr_iret hx hb hr hlocks (congrArg zI (show (-3) = q_triN (pa 0) ms tmy sz cm from by unfold q_triN; (repeat' split) <;> first | rfl | omega)) dX6_tried_45
        · refine zv_iconst hx hb dX6_tried_32 ?_
          rw [← hQQ]
          exact zr_iret hx hb hr hlocks (congrArg zI (show (-1) = q_triN (pa 0) ms tmy sz cm from by unfold q_triN; (repeat' split) <;> first | rfl | omega)) dX6_tried_33
set_option maxHeartbeats 4000000 in
set_option maxRecDepth 100000 in
theorem c_X6_triedY (l : Launch) (dC : Nat → ClassId) (dI : Nat → Nat → Nat) (cI cB cZ : ClassId) (a0 : Nat) (a1 : Nat) (a2 : Nat) (a3 : Nat) (a4 : Nat) (a5 : Nat) (a6 : Nat) (a7 : Nat) (a8 : Nat) (a9 : Nat) (a10 : Nat) (a11 : Nat) (a12 : Nat) (a13 : Nat) (a14 : Nat) (a15 : Nat) (a16 : Nat) (a17 : Nat) (mtr : Int64) (tx : Int → Int) (ty : Int) (pa : Int → Int) (ms : Int → Int) (ml : Int → Int) (mr : Int → Int) (mt : Int → Int) (mat : Int) (mst : Int) (mso : Int) (mva : Int) (mfa : Int) (nw : Int → Int) (ik : Int → Int) (sd : Int → Int) (mlo : Int) (ra : Int → Int) (rm : Int) (bg : Int → Int) (to : Int → Int) (tm : Int) (cd : Int → Int) (fi : Int → Int) (tsz : Int → Int) (tcm : Int → Int) (tmy : Int) (mg : Int → Int) (sz : Int) (cm : Int) (hh : hOk (pa 0) ms ml mr mt) (htn : 0 ≤ tmy ∧ tmy ≤ 9) (hsz : -2147483648 ≤ sz ∧ sz ≤ 2147483647) (hcm : -2147483648 ≤ cm ∧ cm ≤ 2147483647) (hok : ((sz = 0 ∨ sz = 1) ∧ (cm = -9 ∨ ((0 ≤ cm ∧ cm < pa 0) ∧ ms cm = 0))) ∧ tmy < 9) : MetW (S := Unit) l yX6_tried wsX6_tried ({ frames := 2, cells := 0, slots := 0, locals := 43 }) (dC, dI) vwCl (zT cI cB cZ) zN [(a0, .inr (5, [.long mtr, .ref a1, .int (zI ty), .ref a2, .ref a3, .ref a4, .ref a5, .ref a6, .int (zI mat), .int (zI mst), .int (zI mso), .int (zI mva), .int (zI mfa), .ref a7, .ref a8, .ref a9, .int (zI mlo), .ref a10, .int (zI rm), .ref a11, .ref a12, .int (zI tm), .ref a13, .ref a14, .ref a15, .ref a16, .int (zI tmy), .ref a17])), (a1, .inl (cB, 200, .inl (zA tx))), (a2, .inl (cI, 2, .inl (zA pa))), (a3, .inl (cI, 18, .inl (zA ms))), (a4, .inl (cI, 18, .inl (zA ml))), (a5, .inl (cI, 18, .inl (zA mr))), (a6, .inl (cI, 18, .inl (zA mt))), (a7, .inl (cI, 1143, .inl (zA nw))), (a8, .inl (cZ, 2, .inl (zA ik))), (a9, .inl (cI, 9, .inl (zA sd))), (a10, .inl (cI, 9, .inl (zA ra))), (a11, .inl (cI, 9, .inl (zA bg))), (a12, .inl (cI, 4, .inl (zA to))), (a13, .inl (cI, 200, .inl (zA cd))), (a14, .inl (cI, 9, .inl (zA fi))), (a15, .inl (cI, 9, .inl (zA tsz))), (a16, .inl (cI, 9, .inl (zA tcm))), (a17, .inl (cI, 10, .inl (zA mg)))] [.ref a0, .int (zI sz), .int (zI cm)] (fun u => some (.int (zI (tmy + 1)))) (fun u => [(a0, .inr (5, [.long mtr, .ref a1, .int (zI ty), .ref a2, .ref a3, .ref a4, .ref a5, .ref a6, .int (zI mat), .int (zI mst), .int (zI mso), .int (zI mva), .int (zI mfa), .ref a7, .ref a8, .ref a9, .int (zI mlo), .ref a10, .int (zI rm), .ref a11, .ref a12, .int (zI tm), .ref a13, .ref a14, .ref a15, .ref a16, .int (zI (tmy + 1)), .ref a17])), (a1, .inl (cB, 200, .inl (zA tx))), (a2, .inl (cI, 2, .inl (zA pa))), (a3, .inl (cI, 18, .inl (zA ms))), (a4, .inl (cI, 18, .inl (zA ml))), (a5, .inl (cI, 18, .inl (zA mr))), (a6, .inl (cI, 18, .inl (zA mt))), (a7, .inl (cI, 1143, .inl (zA nw))), (a8, .inl (cZ, 2, .inl (zA ik))), (a9, .inl (cI, 9, .inl (zA sd))), (a10, .inl (cI, 9, .inl (zA ra))), (a11, .inl (cI, 9, .inl (zA bg))), (a12, .inl (cI, 4, .inl (zA to))), (a13, .inl (cI, 200, .inl (zA cd))), (a14, .inl (cI, 9, .inl (zA fi))), (a15, .inl (cI, 9, .inl (zA (zu tsz tmy sz)))), (a16, .inl (cI, 9, .inl (zA (zu tcm tmy cm)))), (a17, .inl (cI, 10, .inl (zA mg)))]) (fun u => True) := by
  refine MetW.intro (cc := cX6_tried) (maxL := 3) (ret := (some .int)) (by decide) rfl (Nat.le_of_ble_eq_true rfl) ?_
  intro p e s m args below meth c A hx hb hr hlocks hml hts hown hP hK hD hS hA hE ls hl
  have hown : s.vm.findClass RX6 = some m.cls := hown
  have hl : lv_has ls 3 [(0, .ref a0), (1, .int (zI sz)), (2, .int (zI cm))] := hl
  generalize hRM : ({ frames := 2, cells := 0, slots := 0, locals := 43 } : Room) = RM
  generalize hQQ : MQ below (QW (S := Unit) (dC, dI) vwCl A (fun u => some (.int (zI (tmy + 1)))) (fun u => [(a0, .inr (5, [.long mtr, .ref a1, .int (zI ty), .ref a2, .ref a3, .ref a4, .ref a5, .ref a6, .int (zI mat), .int (zI mst), .int (zI mso), .int (zI mva), .int (zI mfa), .ref a7, .ref a8, .ref a9, .int (zI mlo), .ref a10, .int (zI rm), .ref a11, .ref a12, .int (zI tm), .ref a13, .ref a14, .ref a15, .ref a16, .int (zI (tmy + 1)), .ref a17])), (a1, .inl (cB, 200, .inl (zA tx))), (a2, .inl (cI, 2, .inl (zA pa))), (a3, .inl (cI, 18, .inl (zA ms))), (a4, .inl (cI, 18, .inl (zA ml))), (a5, .inl (cI, 18, .inl (zA mr))), (a6, .inl (cI, 18, .inl (zA mt))), (a7, .inl (cI, 1143, .inl (zA nw))), (a8, .inl (cZ, 2, .inl (zA ik))), (a9, .inl (cI, 9, .inl (zA sd))), (a10, .inl (cI, 9, .inl (zA ra))), (a11, .inl (cI, 9, .inl (zA bg))), (a12, .inl (cI, 4, .inl (zA to))), (a13, .inl (cI, 200, .inl (zA cd))), (a14, .inl (cI, 9, .inl (zA fi))), (a15, .inl (cI, 9, .inl (zA (zu tsz tmy sz)))), (a16, .inl (cI, 9, .inl (zA (zu tcm tmy cm)))), (a17, .inl (cI, 10, .inl (zA mg)))]) (fun u => True)) args s 0 0 A = QQ
  have in_X6 : ∀ w ∈ wsX60, w ∈ wsX6_tried := by decide +kernel
  have w_0 := hts (.fieldLink RX6 109 "WallMarblesModel" "triedMany" "I") (by decide +kernel)
  have w_1 := hts (.fieldLink RX6 54 "WallMarblesModel" "triedSize" "[I") (by decide +kernel)
  have w_2 := hts (.fieldLink RX6 57 "WallMarblesModel" "triedComes" "[I") (by decide +kernel)
  have w_3 := hts (.fieldLink RX6 17 "WallMarblesModel" "sorts" "[I") (by decide +kernel)
  have hn := hh.1
  refine lv_iload_n hx hb dX6_tried_0 rfl (lv_at hl 1 rfl) ?_
  refine zv_iconst hx hb dX6_tried_1 ?_
  refine zv_iconst hx hb dX6_tried_2 ?_
  refine zv_callRS (As := [.int (zI sz), .int (zI 0), .int (zI 1)]) (rest := []) ⟨hx, hb, hml, hown, hts⟩ (c_X6_in l dC dI cI cB cZ sz 0 1 (by omega) (by omega) (by omega)) (va_cwS 3 hts gX6_tried_X6_in rfl rfl rfl (by decide +kernel) ⟨by rw [← hRM]; first | decide | (dsimp only; omega), by rw [← hRM]; first | decide | (dsimp only; omega)⟩) hP hK [] rfl [0, 1, 2] rfl zN_bl (zN_go hE) rfl hl.1 rfl (Nat.le_of_ble_eq_true rfl) dX6_tried_3 ⟨Nat.zero_le _, Nat.zero_le _⟩ ?_
  refine zv_ifeq_b (tgt := 32) hx hb dX6_tried_6 (by decide) (fun c_6 => ?_) (fun c_6 => ?_)
  · exfalso; omega
  · refine lv_iload_n hx hb dX6_tried_9 rfl (lv_at hl 2 rfl) ?_
    refine zv_bipush hx hb dX6_tried_10 (by decide +kernel) ?_
    refine zv_icmp_eq (tgt := 34) hx hb (by omega) (by omega) dX6_tried_12 (by decide) (fun c_12 => ?_) (fun c_12 => ?_)
    · refine lv_aload_n hx hb dX6_tried_34 rfl (lv_at hl 0 rfl) ?_
      refine va_get (D := (dC, dI)) (ci := 5) (v := .int (zI tmy)) (C := RX6) (T := TX6) (N := 28) hx hb hts in_X6 hown hK hP 0 rfl rfl 26 (by decide) w_0 (fun _ h9 => h9) rfl dX6_tried_35 ?_
      refine zv_bipush hx hb dX6_tried_38 (by decide +kernel) ?_
      refine zv_icmp_ne (tgt := 46) hx hb (by omega) (by omega) dX6_tried_40 (by decide) (fun c_40 => ?_) (fun c_40 => ?_)
      · refine lv_aload_n hx hb dX6_tried_46 rfl (lv_at hl 0 rfl) ?_
        refine va_get (D := (dC, dI)) (ci := 5) (v := .ref a15) (C := RX6) (T := TX6) (N := 28) hx hb hts in_X6 hown hK hP 0 rfl rfl 24 (by decide) w_1 (fun _ h9 => h9) rfl dX6_tried_47 ?_
        refine lv_aload_n hx hb dX6_tried_50 rfl (lv_at hl 0 rfl) ?_
        refine va_get (D := (dC, dI)) (ci := 5) (v := .int (zI tmy)) (C := RX6) (T := TX6) (N := 28) hx hb hts in_X6 hown hK hP 0 rfl rfl 26 (by decide) w_0 (fun _ h9 => h9) rfl dX6_tried_51 ?_
        refine lv_iload_n hx hb dX6_tried_54 rfl (lv_at hl 1 rfl) ?_
        refine zv_iast (ws' := [(a0, .inr (5, [.long mtr, .ref a1, .int (zI ty), .ref a2, .ref a3, .ref a4, .ref a5, .ref a6, .int (zI mat), .int (zI mst), .int (zI mso), .int (zI mva), .int (zI mfa), .ref a7, .ref a8, .ref a9, .int (zI mlo), .ref a10, .int (zI rm), .ref a11, .ref a12, .int (zI tm), .ref a13, .ref a14, .ref a15, .ref a16, .int (zI tmy), .ref a17])), (a1, .inl (cB, 200, .inl (zA tx))), (a2, .inl (cI, 2, .inl (zA pa))), (a3, .inl (cI, 18, .inl (zA ms))), (a4, .inl (cI, 18, .inl (zA ml))), (a5, .inl (cI, 18, .inl (zA mr))), (a6, .inl (cI, 18, .inl (zA mt))), (a7, .inl (cI, 1143, .inl (zA nw))), (a8, .inl (cZ, 2, .inl (zA ik))), (a9, .inl (cI, 9, .inl (zA sd))), (a10, .inl (cI, 9, .inl (zA ra))), (a11, .inl (cI, 9, .inl (zA bg))), (a12, .inl (cI, 4, .inl (zA to))), (a13, .inl (cI, 200, .inl (zA cd))), (a14, .inl (cI, 9, .inl (zA fi))), (a15, .inl (cI, 9, .inl (zA (zu tsz tmy sz)))), (a16, .inl (cI, 9, .inl (zA tcm))), (a17, .inl (cI, 10, .inl (zA mg)))]) hx hb hK hP hD hS 15 0 rfl rfl (by omega) rfl dX6_tried_55 (fun H locs hP hD hS => ?_)
        refine lv_aload_n hx hb dX6_tried_56 rfl (lv_at hl 0 rfl) ?_
        refine va_get (D := (dC, dI)) (ci := 5) (v := .ref a16) (C := RX6) (T := TX6) (N := 28) hx hb hts in_X6 hown hK hP 0 rfl rfl 25 (by decide) w_2 (fun _ h9 => h9) rfl dX6_tried_57 ?_
        refine lv_aload_n hx hb dX6_tried_60 rfl (lv_at hl 0 rfl) ?_
        refine va_get (D := (dC, dI)) (ci := 5) (v := .int (zI tmy)) (C := RX6) (T := TX6) (N := 28) hx hb hts in_X6 hown hK hP 0 rfl rfl 26 (by decide) w_0 (fun _ h9 => h9) rfl dX6_tried_61 ?_
        refine lv_iload_n hx hb dX6_tried_64 rfl (lv_at hl 2 rfl) ?_
        refine zv_iast (ws' := [(a0, .inr (5, [.long mtr, .ref a1, .int (zI ty), .ref a2, .ref a3, .ref a4, .ref a5, .ref a6, .int (zI mat), .int (zI mst), .int (zI mso), .int (zI mva), .int (zI mfa), .ref a7, .ref a8, .ref a9, .int (zI mlo), .ref a10, .int (zI rm), .ref a11, .ref a12, .int (zI tm), .ref a13, .ref a14, .ref a15, .ref a16, .int (zI tmy), .ref a17])), (a1, .inl (cB, 200, .inl (zA tx))), (a2, .inl (cI, 2, .inl (zA pa))), (a3, .inl (cI, 18, .inl (zA ms))), (a4, .inl (cI, 18, .inl (zA ml))), (a5, .inl (cI, 18, .inl (zA mr))), (a6, .inl (cI, 18, .inl (zA mt))), (a7, .inl (cI, 1143, .inl (zA nw))), (a8, .inl (cZ, 2, .inl (zA ik))), (a9, .inl (cI, 9, .inl (zA sd))), (a10, .inl (cI, 9, .inl (zA ra))), (a11, .inl (cI, 9, .inl (zA bg))), (a12, .inl (cI, 4, .inl (zA to))), (a13, .inl (cI, 200, .inl (zA cd))), (a14, .inl (cI, 9, .inl (zA fi))), (a15, .inl (cI, 9, .inl (zA (zu tsz tmy sz)))), (a16, .inl (cI, 9, .inl (zA (zu tcm tmy cm)))), (a17, .inl (cI, 10, .inl (zA mg)))]) hx hb hK hP hD hS 16 0 rfl rfl (by omega) rfl dX6_tried_65 (fun H locs hP hD hS => ?_)
        refine lv_aload_n hx hb dX6_tried_66 rfl (lv_at hl 0 rfl) ?_
        refine lv_dup hx hb dX6_tried_67 rfl ?_
        refine va_get (D := (dC, dI)) (ci := 5) (v := .int (zI tmy)) (C := RX6) (T := TX6) (N := 28) hx hb hts in_X6 hown hK hP 0 rfl rfl 26 (by decide) w_0 (fun _ h9 => h9) rfl dX6_tried_68 ?_
        refine zv_iconst hx hb dX6_tried_71 ?_
        refine zv_iadd hx hb dX6_tried_72 ?_
        refine va_put (D := (dC, dI)) (ci := 5) (v := .int (zI (tmy + 1))) (ty := .int) (C := RX6) (T := TX6) (N := 28) hx hb hts in_X6 tyX6 tyX6_ok nmX6 hown hK hP hD hS 0 rfl rfl 26 (by decide) w_0 (fun _ h9 => h9) rfl (by decide +kernel) rfl rfl (Nat.le_of_ble_eq_true rfl) dX6_tried_73 (fun H locs hP hD hS => ?_)
        have hP : va_P (dC, dI) vwCl [(a0, .inr (5, [.long mtr, .ref a1, .int (zI ty), .ref a2, .ref a3, .ref a4, .ref a5, .ref a6, .int (zI mat), .int (zI mst), .int (zI mso), .int (zI mva), .int (zI mfa), .ref a7, .ref a8, .ref a9, .int (zI mlo), .ref a10, .int (zI rm), .ref a11, .ref a12, .int (zI tm), .ref a13, .ref a14, .ref a15, .ref a16, .int (zI (tmy + 1)), .ref a17])), (a1, .inl (cB, 200, .inl (zA tx))), (a2, .inl (cI, 2, .inl (zA pa))), (a3, .inl (cI, 18, .inl (zA ms))), (a4, .inl (cI, 18, .inl (zA ml))), (a5, .inl (cI, 18, .inl (zA mr))), (a6, .inl (cI, 18, .inl (zA mt))), (a7, .inl (cI, 1143, .inl (zA nw))), (a8, .inl (cZ, 2, .inl (zA ik))), (a9, .inl (cI, 9, .inl (zA sd))), (a10, .inl (cI, 9, .inl (zA ra))), (a11, .inl (cI, 9, .inl (zA bg))), (a12, .inl (cI, 4, .inl (zA to))), (a13, .inl (cI, 200, .inl (zA cd))), (a14, .inl (cI, 9, .inl (zA fi))), (a15, .inl (cI, 9, .inl (zA (zu tsz tmy sz)))), (a16, .inl (cI, 9, .inl (zA (zu tcm tmy cm)))), (a17, .inl (cI, 10, .inl (zA mg)))] H := hP
        have hD : va_D A [(a0, .inr (5, [.long mtr, .ref a1, .int (zI ty), .ref a2, .ref a3, .ref a4, .ref a5, .ref a6, .int (zI mat), .int (zI mst), .int (zI mso), .int (zI mva), .int (zI mfa), .ref a7, .ref a8, .ref a9, .int (zI mlo), .ref a10, .int (zI rm), .ref a11, .ref a12, .int (zI tm), .ref a13, .ref a14, .ref a15, .ref a16, .int (zI (tmy + 1)), .ref a17])), (a1, .inl (cB, 200, .inl (zA tx))), (a2, .inl (cI, 2, .inl (zA pa))), (a3, .inl (cI, 18, .inl (zA ms))), (a4, .inl (cI, 18, .inl (zA ml))), (a5, .inl (cI, 18, .inl (zA mr))), (a6, .inl (cI, 18, .inl (zA mt))), (a7, .inl (cI, 1143, .inl (zA nw))), (a8, .inl (cZ, 2, .inl (zA ik))), (a9, .inl (cI, 9, .inl (zA sd))), (a10, .inl (cI, 9, .inl (zA ra))), (a11, .inl (cI, 9, .inl (zA bg))), (a12, .inl (cI, 4, .inl (zA to))), (a13, .inl (cI, 200, .inl (zA cd))), (a14, .inl (cI, 9, .inl (zA fi))), (a15, .inl (cI, 9, .inl (zA (zu tsz tmy sz)))), (a16, .inl (cI, 9, .inl (zA (zu tcm tmy cm)))), (a17, .inl (cI, 10, .inl (zA mg)))] := hD
        refine lv_aload_n hx hb dX6_tried_76 rfl (lv_at hl 0 rfl) ?_
        refine va_get (D := (dC, dI)) (ci := 5) (v := .int (zI (tmy + 1))) (C := RX6) (T := TX6) (N := 28) hx hb hts in_X6 hown hK hP 0 rfl rfl 26 (by decide) w_0 (fun _ h9 => h9) rfl dX6_tried_77 ?_
        rw [← hQQ]
        exact zw_iret hx hb hr hlocks () rfl trivial hP hS dX6_tried_80
      · exfalso; omega
    · refine lv_aload_n hx hb dX6_tried_15 rfl (lv_at hl 0 rfl) ?_
      refine lv_iload_n hx hb dX6_tried_16 rfl (lv_at hl 2 rfl) ?_
      refine zv_callRVa (As := [.int (zI cm)]) (rest := []) ⟨hx, hb, hml, hown, hts⟩ (c_X6_isPart l dC dI cI cB cZ a0 a1 a2 a3 a4 a5 a6 a7 a8 a9 a10 a11 a12 a13 a14 a15 a16 a17 mtr tx ty pa ms ml mr mt mat mst mso mva mfa nw ik sd mlo ra rm bg to tm cd fi tsz tcm tmy mg cm (by omega) (by omega)) (cwV 1 hts gX6_tried_X6_isPart rfl rfl rfl (by decide +kernel) ⟨by rw [← hRM]; first | decide | (dsimp only; omega), by rw [← hRM]; first | decide | (dsimp only; omega)⟩) hP hK zN_bl (zN_go hE) (q0 := 0) rfl rfl rfl rfl hl.1 rfl (Nat.le_of_ble_eq_true rfl) dX6_tried_17 ⟨Nat.zero_le _, Nat.zero_le _⟩ ?_
      refine zv_ifeq_b (tgt := 32) hx hb dX6_tried_20 (by decide) (fun c_20 => ?_) (fun c_20 => ?_)
      · exfalso; omega
      · refine lv_aload_n hx hb dX6_tried_23 rfl (lv_at hl 0 rfl) ?_
        refine va_get (D := (dC, dI)) (ci := 5) (v := .ref a3) (C := RX6) (T := TX6) (N := 28) hx hb hts in_X6 hown hK hP 0 rfl rfl 4 (by decide) w_3 (fun _ h9 => h9) rfl dX6_tried_24 ?_
        refine lv_iload_n hx hb dX6_tried_27 rfl (lv_at hl 2 rfl) ?_
        have z1 := (hh.2 cm c_20.1 c_20.2).1
        refine zv_iald hx hb hK hP 3 0 rfl rfl (by omega) dX6_tried_28 ?_
        refine zv_if_eq (tgt := 34) hx hb (by omega) dX6_tried_29 (by decide) (fun c_29 => ?_) (fun c_29 => ?_)
        · refine lv_aload_n hx hb dX6_tried_34 rfl (lv_at hl 0 rfl) ?_
          refine va_get (D := (dC, dI)) (ci := 5) (v := .int (zI tmy)) (C := RX6) (T := TX6) (N := 28) hx hb hts in_X6 hown hK hP 0 rfl rfl 26 (by decide) w_0 (fun _ h9 => h9) rfl dX6_tried_35 ?_
          refine zv_bipush hx hb dX6_tried_38 (by decide +kernel) ?_
          refine zv_icmp_ne (tgt := 46) hx hb (by omega) (by omega) dX6_tried_40 (by decide) (fun c_40 => ?_) (fun c_40 => ?_)
          · refine lv_aload_n hx hb dX6_tried_46 rfl (lv_at hl 0 rfl) ?_
            refine va_get (D := (dC, dI)) (ci := 5) (v := .ref a15) (C := RX6) (T := TX6) (N := 28) hx hb hts in_X6 hown hK hP 0 rfl rfl 24 (by decide) w_1 (fun _ h9 => h9) rfl dX6_tried_47 ?_
            refine lv_aload_n hx hb dX6_tried_50 rfl (lv_at hl 0 rfl) ?_
            refine va_get (D := (dC, dI)) (ci := 5) (v := .int (zI tmy)) (C := RX6) (T := TX6) (N := 28) hx hb hts in_X6 hown hK hP 0 rfl rfl 26 (by decide) w_0 (fun _ h9 => h9) rfl dX6_tried_51 ?_
            refine lv_iload_n hx hb dX6_tried_54 rfl (lv_at hl 1 rfl) ?_
            refine zv_iast (ws' := [(a0, .inr (5, [.long mtr, .ref a1, .int (zI ty), .ref a2, .ref a3, .ref a4, .ref a5, .ref a6, .int (zI mat), .int (zI mst), .int (zI mso), .int (zI mva), .int (zI mfa), .ref a7, .ref a8, .ref a9, .int (zI mlo), .ref a10, .int (zI rm), .ref a11, .ref a12, .int (zI tm), .ref a13, .ref a14, .ref a15, .ref a16, .int (zI tmy), .ref a17])), (a1, .inl (cB, 200, .inl (zA tx))), (a2, .inl (cI, 2, .inl (zA pa))), (a3, .inl (cI, 18, .inl (zA ms))), (a4, .inl (cI, 18, .inl (zA ml))), (a5, .inl (cI, 18, .inl (zA mr))), (a6, .inl (cI, 18, .inl (zA mt))), (a7, .inl (cI, 1143, .inl (zA nw))), (a8, .inl (cZ, 2, .inl (zA ik))), (a9, .inl (cI, 9, .inl (zA sd))), (a10, .inl (cI, 9, .inl (zA ra))), (a11, .inl (cI, 9, .inl (zA bg))), (a12, .inl (cI, 4, .inl (zA to))), (a13, .inl (cI, 200, .inl (zA cd))), (a14, .inl (cI, 9, .inl (zA fi))), (a15, .inl (cI, 9, .inl (zA (zu tsz tmy sz)))), (a16, .inl (cI, 9, .inl (zA tcm))), (a17, .inl (cI, 10, .inl (zA mg)))]) hx hb hK hP hD hS 15 0 rfl rfl (by omega) rfl dX6_tried_55 (fun H locs hP hD hS => ?_)
            refine lv_aload_n hx hb dX6_tried_56 rfl (lv_at hl 0 rfl) ?_
            refine va_get (D := (dC, dI)) (ci := 5) (v := .ref a16) (C := RX6) (T := TX6) (N := 28) hx hb hts in_X6 hown hK hP 0 rfl rfl 25 (by decide) w_2 (fun _ h9 => h9) rfl dX6_tried_57 ?_
            refine lv_aload_n hx hb dX6_tried_60 rfl (lv_at hl 0 rfl) ?_
            refine va_get (D := (dC, dI)) (ci := 5) (v := .int (zI tmy)) (C := RX6) (T := TX6) (N := 28) hx hb hts in_X6 hown hK hP 0 rfl rfl 26 (by decide) w_0 (fun _ h9 => h9) rfl dX6_tried_61 ?_
            refine lv_iload_n hx hb dX6_tried_64 rfl (lv_at hl 2 rfl) ?_
            refine zv_iast (ws' := [(a0, .inr (5, [.long mtr, .ref a1, .int (zI ty), .ref a2, .ref a3, .ref a4, .ref a5, .ref a6, .int (zI mat), .int (zI mst), .int (zI mso), .int (zI mva), .int (zI mfa), .ref a7, .ref a8, .ref a9, .int (zI mlo), .ref a10, .int (zI rm), .ref a11, .ref a12, .int (zI tm), .ref a13, .ref a14, .ref a15, .ref a16, .int (zI tmy), .ref a17])), (a1, .inl (cB, 200, .inl (zA tx))), (a2, .inl (cI, 2, .inl (zA pa))), (a3, .inl (cI, 18, .inl (zA ms))), (a4, .inl (cI, 18, .inl (zA ml))), (a5, .inl (cI, 18, .inl (zA mr))), (a6, .inl (cI, 18, .inl (zA mt))), (a7, .inl (cI, 1143, .inl (zA nw))), (a8, .inl (cZ, 2, .inl (zA ik))), (a9, .inl (cI, 9, .inl (zA sd))), (a10, .inl (cI, 9, .inl (zA ra))), (a11, .inl (cI, 9, .inl (zA bg))), (a12, .inl (cI, 4, .inl (zA to))), (a13, .inl (cI, 200, .inl (zA cd))), (a14, .inl (cI, 9, .inl (zA fi))), (a15, .inl (cI, 9, .inl (zA (zu tsz tmy sz)))), (a16, .inl (cI, 9, .inl (zA (zu tcm tmy cm)))), (a17, .inl (cI, 10, .inl (zA mg)))]) hx hb hK hP hD hS 16 0 rfl rfl (by omega) rfl dX6_tried_65 (fun H locs hP hD hS => ?_)
            refine lv_aload_n hx hb dX6_tried_66 rfl (lv_at hl 0 rfl) ?_
            refine lv_dup hx hb dX6_tried_67 rfl ?_
            refine va_get (D := (dC, dI)) (ci := 5) (v := .int (zI tmy)) (C := RX6) (T := TX6) (N := 28) hx hb hts in_X6 hown hK hP 0 rfl rfl 26 (by decide) w_0 (fun _ h9 => h9) rfl dX6_tried_68 ?_
            refine zv_iconst hx hb dX6_tried_71 ?_
            refine zv_iadd hx hb dX6_tried_72 ?_
            refine va_put (D := (dC, dI)) (ci := 5) (v := .int (zI (tmy + 1))) (ty := .int) (C := RX6) (T := TX6) (N := 28) hx hb hts in_X6 tyX6 tyX6_ok nmX6 hown hK hP hD hS 0 rfl rfl 26 (by decide) w_0 (fun _ h9 => h9) rfl (by decide +kernel) rfl rfl (Nat.le_of_ble_eq_true rfl) dX6_tried_73 (fun H locs hP hD hS => ?_)
            have hP : va_P (dC, dI) vwCl [(a0, .inr (5, [.long mtr, .ref a1, .int (zI ty), .ref a2, .ref a3, .ref a4, .ref a5, .ref a6, .int (zI mat), .int (zI mst), .int (zI mso), .int (zI mva), .int (zI mfa), .ref a7, .ref a8, .ref a9, .int (zI mlo), .ref a10, .int (zI rm), .ref a11, .ref a12, .int (zI tm), .ref a13, .ref a14, .ref a15, .ref a16, .int (zI (tmy + 1)), .ref a17])), (a1, .inl (cB, 200, .inl (zA tx))), (a2, .inl (cI, 2, .inl (zA pa))), (a3, .inl (cI, 18, .inl (zA ms))), (a4, .inl (cI, 18, .inl (zA ml))), (a5, .inl (cI, 18, .inl (zA mr))), (a6, .inl (cI, 18, .inl (zA mt))), (a7, .inl (cI, 1143, .inl (zA nw))), (a8, .inl (cZ, 2, .inl (zA ik))), (a9, .inl (cI, 9, .inl (zA sd))), (a10, .inl (cI, 9, .inl (zA ra))), (a11, .inl (cI, 9, .inl (zA bg))), (a12, .inl (cI, 4, .inl (zA to))), (a13, .inl (cI, 200, .inl (zA cd))), (a14, .inl (cI, 9, .inl (zA fi))), (a15, .inl (cI, 9, .inl (zA (zu tsz tmy sz)))), (a16, .inl (cI, 9, .inl (zA (zu tcm tmy cm)))), (a17, .inl (cI, 10, .inl (zA mg)))] H := hP
            have hD : va_D A [(a0, .inr (5, [.long mtr, .ref a1, .int (zI ty), .ref a2, .ref a3, .ref a4, .ref a5, .ref a6, .int (zI mat), .int (zI mst), .int (zI mso), .int (zI mva), .int (zI mfa), .ref a7, .ref a8, .ref a9, .int (zI mlo), .ref a10, .int (zI rm), .ref a11, .ref a12, .int (zI tm), .ref a13, .ref a14, .ref a15, .ref a16, .int (zI (tmy + 1)), .ref a17])), (a1, .inl (cB, 200, .inl (zA tx))), (a2, .inl (cI, 2, .inl (zA pa))), (a3, .inl (cI, 18, .inl (zA ms))), (a4, .inl (cI, 18, .inl (zA ml))), (a5, .inl (cI, 18, .inl (zA mr))), (a6, .inl (cI, 18, .inl (zA mt))), (a7, .inl (cI, 1143, .inl (zA nw))), (a8, .inl (cZ, 2, .inl (zA ik))), (a9, .inl (cI, 9, .inl (zA sd))), (a10, .inl (cI, 9, .inl (zA ra))), (a11, .inl (cI, 9, .inl (zA bg))), (a12, .inl (cI, 4, .inl (zA to))), (a13, .inl (cI, 200, .inl (zA cd))), (a14, .inl (cI, 9, .inl (zA fi))), (a15, .inl (cI, 9, .inl (zA (zu tsz tmy sz)))), (a16, .inl (cI, 9, .inl (zA (zu tcm tmy cm)))), (a17, .inl (cI, 10, .inl (zA mg)))] := hD
            refine lv_aload_n hx hb dX6_tried_76 rfl (lv_at hl 0 rfl) ?_
            refine va_get (D := (dC, dI)) (ci := 5) (v := .int (zI (tmy + 1))) (C := RX6) (T := TX6) (N := 28) hx hb hts in_X6 hown hK hP 0 rfl rfl 26 (by decide) w_0 (fun _ h9 => h9) rfl dX6_tried_77 ?_
            rw [← hQQ]
            exact zw_iret hx hb hr hlocks () rfl trivial hP hS dX6_tried_80
          · exfalso; omega
        · exfalso; omega
set_option maxHeartbeats 4000000 in
set_option maxRecDepth 100000 in
theorem c_X6_forget (l : Launch) (dC : Nat → ClassId) (dI : Nat → Nat → Nat) (cI cB cZ : ClassId) (a0 : Nat) (a1 : Nat) (a2 : Nat) (a3 : Nat) (a4 : Nat) (a5 : Nat) (a6 : Nat) (a7 : Nat) (a8 : Nat) (a9 : Nat) (a10 : Nat) (a11 : Nat) (a12 : Nat) (a13 : Nat) (a14 : Nat) (a15 : Nat) (a16 : Nat) (a17 : Nat) (mtr : Int64) (tx : Int → Int) (ty : Int) (pa : Int → Int) (ms : Int → Int) (ml : Int → Int) (mr : Int → Int) (mt : Int → Int) (mat : Int) (mst : Int) (mso : Int) (mva : Int) (mfa : Int) (nw : Int → Int) (ik : Int → Int) (sd : Int → Int) (mlo : Int) (ra : Int → Int) (rm : Int) (bg : Int → Int) (to : Int → Int) (tm : Int) (cd : Int → Int) (fi : Int → Int) (tsz : Int → Int) (tcm : Int → Int) (tmy : Int) (mg : Int → Int)  : MetW (S := Unit) l yX6_forget wsX6_forget ({ frames := 0, cells := 0, slots := 0, locals := 0 }) (dC, dI) vwCl (zT cI cB cZ) zN [(a0, .inr (5, [.long mtr, .ref a1, .int (zI ty), .ref a2, .ref a3, .ref a4, .ref a5, .ref a6, .int (zI mat), .int (zI mst), .int (zI mso), .int (zI mva), .int (zI mfa), .ref a7, .ref a8, .ref a9, .int (zI mlo), .ref a10, .int (zI rm), .ref a11, .ref a12, .int (zI tm), .ref a13, .ref a14, .ref a15, .ref a16, .int (zI tmy), .ref a17])), (a1, .inl (cB, 200, .inl (zA tx))), (a2, .inl (cI, 2, .inl (zA pa))), (a3, .inl (cI, 18, .inl (zA ms))), (a4, .inl (cI, 18, .inl (zA ml))), (a5, .inl (cI, 18, .inl (zA mr))), (a6, .inl (cI, 18, .inl (zA mt))), (a7, .inl (cI, 1143, .inl (zA nw))), (a8, .inl (cZ, 2, .inl (zA ik))), (a9, .inl (cI, 9, .inl (zA sd))), (a10, .inl (cI, 9, .inl (zA ra))), (a11, .inl (cI, 9, .inl (zA bg))), (a12, .inl (cI, 4, .inl (zA to))), (a13, .inl (cI, 200, .inl (zA cd))), (a14, .inl (cI, 9, .inl (zA fi))), (a15, .inl (cI, 9, .inl (zA tsz))), (a16, .inl (cI, 9, .inl (zA tcm))), (a17, .inl (cI, 10, .inl (zA mg)))] [.ref a0] (fun u => some (.int (zI tmy))) (fun u => [(a0, .inr (5, [.long mtr, .ref a1, .int (zI ty), .ref a2, .ref a3, .ref a4, .ref a5, .ref a6, .int (zI mat), .int (zI mst), .int (zI mso), .int (zI mva), .int (zI mfa), .ref a7, .ref a8, .ref a9, .int (zI mlo), .ref a10, .int (zI rm), .ref a11, .ref a12, .int (zI tm), .ref a13, .ref a14, .ref a15, .ref a16, .int (zI 0), .ref a17])), (a1, .inl (cB, 200, .inl (zA tx))), (a2, .inl (cI, 2, .inl (zA pa))), (a3, .inl (cI, 18, .inl (zA ms))), (a4, .inl (cI, 18, .inl (zA ml))), (a5, .inl (cI, 18, .inl (zA mr))), (a6, .inl (cI, 18, .inl (zA mt))), (a7, .inl (cI, 1143, .inl (zA nw))), (a8, .inl (cZ, 2, .inl (zA ik))), (a9, .inl (cI, 9, .inl (zA sd))), (a10, .inl (cI, 9, .inl (zA ra))), (a11, .inl (cI, 9, .inl (zA bg))), (a12, .inl (cI, 4, .inl (zA to))), (a13, .inl (cI, 200, .inl (zA cd))), (a14, .inl (cI, 9, .inl (zA fi))), (a15, .inl (cI, 9, .inl (zA tsz))), (a16, .inl (cI, 9, .inl (zA tcm))), (a17, .inl (cI, 10, .inl (zA mg)))]) (fun u => True) := by
  refine MetW.intro (cc := cX6_forget) (maxL := 2) (ret := (some .int)) (by decide) rfl (Nat.le_of_ble_eq_true rfl) ?_
  intro p e s m args below meth c A hx hb hr hlocks hml hts hown hP hK hD hS hA hE ls hl
  have hown : s.vm.findClass RX6 = some m.cls := hown
  have hl : lv_has ls 2 [(0, .ref a0)] := hl
  generalize hRM : ({ frames := 0, cells := 0, slots := 0, locals := 0 } : Room) = RM
  generalize hQQ : MQ below (QW (S := Unit) (dC, dI) vwCl A (fun u => some (.int (zI tmy))) (fun u => [(a0, .inr (5, [.long mtr, .ref a1, .int (zI ty), .ref a2, .ref a3, .ref a4, .ref a5, .ref a6, .int (zI mat), .int (zI mst), .int (zI mso), .int (zI mva), .int (zI mfa), .ref a7, .ref a8, .ref a9, .int (zI mlo), .ref a10, .int (zI rm), .ref a11, .ref a12, .int (zI tm), .ref a13, .ref a14, .ref a15, .ref a16, .int (zI 0), .ref a17])), (a1, .inl (cB, 200, .inl (zA tx))), (a2, .inl (cI, 2, .inl (zA pa))), (a3, .inl (cI, 18, .inl (zA ms))), (a4, .inl (cI, 18, .inl (zA ml))), (a5, .inl (cI, 18, .inl (zA mr))), (a6, .inl (cI, 18, .inl (zA mt))), (a7, .inl (cI, 1143, .inl (zA nw))), (a8, .inl (cZ, 2, .inl (zA ik))), (a9, .inl (cI, 9, .inl (zA sd))), (a10, .inl (cI, 9, .inl (zA ra))), (a11, .inl (cI, 9, .inl (zA bg))), (a12, .inl (cI, 4, .inl (zA to))), (a13, .inl (cI, 200, .inl (zA cd))), (a14, .inl (cI, 9, .inl (zA fi))), (a15, .inl (cI, 9, .inl (zA tsz))), (a16, .inl (cI, 9, .inl (zA tcm))), (a17, .inl (cI, 10, .inl (zA mg)))]) (fun u => True)) args s 0 0 A = QQ
  have in_X6 : ∀ w ∈ wsX60, w ∈ wsX6_forget := by decide +kernel
  have w_0 := hts (.fieldLink RX6 109 "WallMarblesModel" "triedMany" "I") (by decide +kernel)
  refine lv_aload_n hx hb dX6_forget_0 rfl (lv_at hl 0 rfl) ?_
  refine va_get (D := (dC, dI)) (ci := 5) (v := .int (zI tmy)) (C := RX6) (T := TX6) (N := 28) hx hb hts in_X6 hown hK hP 0 rfl rfl 26 (by decide) w_0 (fun _ h9 => h9) rfl dX6_forget_1 ?_
  refine lv_istore_n (lv' := [(1, .int (zI tmy)), (0, .ref a0)]) hx hb dX6_forget_4 rfl hl (by decide) rfl (fun ls hl => ?_)
  refine lv_aload_n hx hb dX6_forget_5 rfl (lv_at hl 1 rfl) ?_
  refine zv_iconst hx hb dX6_forget_6 ?_
  refine va_put (D := (dC, dI)) (ci := 5) (v := .int (zI 0)) (ty := .int) (C := RX6) (T := TX6) (N := 28) hx hb hts in_X6 tyX6 tyX6_ok nmX6 hown hK hP hD hS 0 rfl rfl 26 (by decide) w_0 (fun _ h9 => h9) rfl (by decide +kernel) rfl rfl (Nat.le_of_ble_eq_true rfl) dX6_forget_7 (fun H locs hP hD hS => ?_)
  have hP : va_P (dC, dI) vwCl [(a0, .inr (5, [.long mtr, .ref a1, .int (zI ty), .ref a2, .ref a3, .ref a4, .ref a5, .ref a6, .int (zI mat), .int (zI mst), .int (zI mso), .int (zI mva), .int (zI mfa), .ref a7, .ref a8, .ref a9, .int (zI mlo), .ref a10, .int (zI rm), .ref a11, .ref a12, .int (zI tm), .ref a13, .ref a14, .ref a15, .ref a16, .int (zI 0), .ref a17])), (a1, .inl (cB, 200, .inl (zA tx))), (a2, .inl (cI, 2, .inl (zA pa))), (a3, .inl (cI, 18, .inl (zA ms))), (a4, .inl (cI, 18, .inl (zA ml))), (a5, .inl (cI, 18, .inl (zA mr))), (a6, .inl (cI, 18, .inl (zA mt))), (a7, .inl (cI, 1143, .inl (zA nw))), (a8, .inl (cZ, 2, .inl (zA ik))), (a9, .inl (cI, 9, .inl (zA sd))), (a10, .inl (cI, 9, .inl (zA ra))), (a11, .inl (cI, 9, .inl (zA bg))), (a12, .inl (cI, 4, .inl (zA to))), (a13, .inl (cI, 200, .inl (zA cd))), (a14, .inl (cI, 9, .inl (zA fi))), (a15, .inl (cI, 9, .inl (zA tsz))), (a16, .inl (cI, 9, .inl (zA tcm))), (a17, .inl (cI, 10, .inl (zA mg)))] H := hP
  have hD : va_D A [(a0, .inr (5, [.long mtr, .ref a1, .int (zI ty), .ref a2, .ref a3, .ref a4, .ref a5, .ref a6, .int (zI mat), .int (zI mst), .int (zI mso), .int (zI mva), .int (zI mfa), .ref a7, .ref a8, .ref a9, .int (zI mlo), .ref a10, .int (zI rm), .ref a11, .ref a12, .int (zI tm), .ref a13, .ref a14, .ref a15, .ref a16, .int (zI 0), .ref a17])), (a1, .inl (cB, 200, .inl (zA tx))), (a2, .inl (cI, 2, .inl (zA pa))), (a3, .inl (cI, 18, .inl (zA ms))), (a4, .inl (cI, 18, .inl (zA ml))), (a5, .inl (cI, 18, .inl (zA mr))), (a6, .inl (cI, 18, .inl (zA mt))), (a7, .inl (cI, 1143, .inl (zA nw))), (a8, .inl (cZ, 2, .inl (zA ik))), (a9, .inl (cI, 9, .inl (zA sd))), (a10, .inl (cI, 9, .inl (zA ra))), (a11, .inl (cI, 9, .inl (zA bg))), (a12, .inl (cI, 4, .inl (zA to))), (a13, .inl (cI, 200, .inl (zA cd))), (a14, .inl (cI, 9, .inl (zA fi))), (a15, .inl (cI, 9, .inl (zA tsz))), (a16, .inl (cI, 9, .inl (zA tcm))), (a17, .inl (cI, 10, .inl (zA mg)))] := hD
  refine lv_iload_n hx hb dX6_forget_10 rfl (lv_at hl 0 rfl) ?_
  rw [← hQQ]
  exact zw_iret hx hb hr hlocks () rfl trivial hP hS dX6_forget_11
set_option maxHeartbeats 4000000 in
set_option maxRecDepth 100000 in
theorem c_X6_copy (l : Launch) (dC : Nat → ClassId) (dI : Nat → Nat → Nat) (cI cB cZ : ClassId) (a0 : Nat) (a1 : Nat) (a2 : Nat) (a3 : Nat) (a4 : Nat) (a5 : Nat) (a6 : Nat) (a7 : Nat) (a8 : Nat) (a9 : Nat) (a10 : Nat) (a11 : Nat) (a12 : Nat) (a13 : Nat) (a14 : Nat) (a15 : Nat) (a16 : Nat) (a17 : Nat) (mtr : Int64) (tx : Int → Int) (ty : Int) (pa : Int → Int) (ms : Int → Int) (ml : Int → Int) (mr : Int → Int) (mt : Int → Int) (mat : Int) (mst : Int) (mso : Int) (mva : Int) (mfa : Int) (nw : Int → Int) (ik : Int → Int) (sd : Int → Int) (mlo : Int) (ra : Int → Int) (rm : Int) (bg : Int → Int) (to : Int → Int) (tm : Int) (cd : Int → Int) (fi : Int → Int) (tsz : Int → Int) (tcm : Int → Int) (tmy : Int) (mg : Int → Int) (fr : Int) (tt : Int) (hft : (fr = 0 ∧ (tt = 381 ∨ tt = 762)) ∨ (tt = 0 ∧ (fr = 381 ∨ fr = 762))) : MetW (S := (Int → Int)) l yX6_copy wsX6_copy ({ frames := 0, cells := 0, slots := 0, locals := 0 }) (dC, dI) vwCl (zT cI cB cZ) zN [(a0, .inr (5, [.long mtr, .ref a1, .int (zI ty), .ref a2, .ref a3, .ref a4, .ref a5, .ref a6, .int (zI mat), .int (zI mst), .int (zI mso), .int (zI mva), .int (zI mfa), .ref a7, .ref a8, .ref a9, .int (zI mlo), .ref a10, .int (zI rm), .ref a11, .ref a12, .int (zI tm), .ref a13, .ref a14, .ref a15, .ref a16, .int (zI tmy), .ref a17])), (a1, .inl (cB, 200, .inl (zA tx))), (a2, .inl (cI, 2, .inl (zA pa))), (a3, .inl (cI, 18, .inl (zA ms))), (a4, .inl (cI, 18, .inl (zA ml))), (a5, .inl (cI, 18, .inl (zA mr))), (a6, .inl (cI, 18, .inl (zA mt))), (a7, .inl (cI, 1143, .inl (zA nw))), (a8, .inl (cZ, 2, .inl (zA ik))), (a9, .inl (cI, 9, .inl (zA sd))), (a10, .inl (cI, 9, .inl (zA ra))), (a11, .inl (cI, 9, .inl (zA bg))), (a12, .inl (cI, 4, .inl (zA to))), (a13, .inl (cI, 200, .inl (zA cd))), (a14, .inl (cI, 9, .inl (zA fi))), (a15, .inl (cI, 9, .inl (zA tsz))), (a16, .inl (cI, 9, .inl (zA tcm))), (a17, .inl (cI, 10, .inl (zA mg)))] [.ref a0, .int (zI fr), .int (zI tt)] (fun u => none) (fun u => [(a0, .inr (5, [.long mtr, .ref a1, .int (zI ty), .ref a2, .ref a3, .ref a4, .ref a5, .ref a6, .int (zI mat), .int (zI mst), .int (zI mso), .int (zI mva), .int (zI mfa), .ref a7, .ref a8, .ref a9, .int (zI mlo), .ref a10, .int (zI rm), .ref a11, .ref a12, .int (zI tm), .ref a13, .ref a14, .ref a15, .ref a16, .int (zI tmy), .ref a17])), (a1, .inl (cB, 200, .inl (zA tx))), (a2, .inl (cI, 2, .inl (zA pa))), (a3, .inl (cI, 18, .inl (zA ms))), (a4, .inl (cI, 18, .inl (zA ml))), (a5, .inl (cI, 18, .inl (zA mr))), (a6, .inl (cI, 18, .inl (zA mt))), (a7, .inl (cI, 1143, .inl (zA u))), (a8, .inl (cZ, 2, .inl (zA ik))), (a9, .inl (cI, 9, .inl (zA sd))), (a10, .inl (cI, 9, .inl (zA ra))), (a11, .inl (cI, 9, .inl (zA bg))), (a12, .inl (cI, 4, .inl (zA to))), (a13, .inl (cI, 200, .inl (zA cd))), (a14, .inl (cI, 9, .inl (zA fi))), (a15, .inl (cI, 9, .inl (zA tsz))), (a16, .inl (cI, 9, .inl (zA tcm))), (a17, .inl (cI, 10, .inl (zA mg)))]) (fun u => (u = zc nw nw fr tt 381)) := by
  refine MetW.intro (cc := cX6_copy) (maxL := 4) (ret := none) (by decide) rfl (Nat.le_of_ble_eq_true rfl) ?_
  intro p e s m args below meth c A hx hb hr hlocks hml hts hown hP hK hD hS hA hE ls hl
  have hown : s.vm.findClass RX6 = some m.cls := hown
  have hl : lv_has ls 4 [(0, .ref a0), (1, .int (zI fr)), (2, .int (zI tt))] := hl
  generalize hRM : ({ frames := 0, cells := 0, slots := 0, locals := 0 } : Room) = RM
  generalize hQQ : MQ below (QW (S := (Int → Int)) (dC, dI) vwCl A (fun u => none) (fun u => [(a0, .inr (5, [.long mtr, .ref a1, .int (zI ty), .ref a2, .ref a3, .ref a4, .ref a5, .ref a6, .int (zI mat), .int (zI mst), .int (zI mso), .int (zI mva), .int (zI mfa), .ref a7, .ref a8, .ref a9, .int (zI mlo), .ref a10, .int (zI rm), .ref a11, .ref a12, .int (zI tm), .ref a13, .ref a14, .ref a15, .ref a16, .int (zI tmy), .ref a17])), (a1, .inl (cB, 200, .inl (zA tx))), (a2, .inl (cI, 2, .inl (zA pa))), (a3, .inl (cI, 18, .inl (zA ms))), (a4, .inl (cI, 18, .inl (zA ml))), (a5, .inl (cI, 18, .inl (zA mr))), (a6, .inl (cI, 18, .inl (zA mt))), (a7, .inl (cI, 1143, .inl (zA u))), (a8, .inl (cZ, 2, .inl (zA ik))), (a9, .inl (cI, 9, .inl (zA sd))), (a10, .inl (cI, 9, .inl (zA ra))), (a11, .inl (cI, 9, .inl (zA bg))), (a12, .inl (cI, 4, .inl (zA to))), (a13, .inl (cI, 200, .inl (zA cd))), (a14, .inl (cI, 9, .inl (zA fi))), (a15, .inl (cI, 9, .inl (zA tsz))), (a16, .inl (cI, 9, .inl (zA tcm))), (a17, .inl (cI, 10, .inl (zA mg)))]) (fun u => (u = zc nw nw fr tt 381))) args s 0 0 A = QQ
  have in_X6 : ∀ w ∈ wsX60, w ∈ wsX6_copy := by decide +kernel
  have w_0 := hts (.fieldLink RX6 29 "WallMarblesModel" "now" "[I") (by decide +kernel)
  have cut2 : ∀ (nM : Nat) (k : Int) (cur : Int → Int),  ((381 - k).toNat) < nM → (0 ≤ k ∧ k ≤ 381) → (cur = zc nw nw fr tt k) → ∀ (H : Heap) (locs : List Loc), va_P (dC, dI) vwCl [(a0, .inr (5, [.long mtr, .ref a1, .int (zI ty), .ref a2, .ref a3, .ref a4, .ref a5, .ref a6, .int (zI mat), .int (zI mst), .int (zI mso), .int (zI mva), .int (zI mfa), .ref a7, .ref a8, .ref a9, .int (zI mlo), .ref a10, .int (zI rm), .ref a11, .ref a12, .int (zI tm), .ref a13, .ref a14, .ref a15, .ref a16, .int (zI tmy), .ref a17])), (a1, .inl (cB, 200, .inl (zA tx))), (a2, .inl (cI, 2, .inl (zA pa))), (a3, .inl (cI, 18, .inl (zA ms))), (a4, .inl (cI, 18, .inl (zA ml))), (a5, .inl (cI, 18, .inl (zA mr))), (a6, .inl (cI, 18, .inl (zA mt))), (a7, .inl (cI, 1143, .inl (zA cur))), (a8, .inl (cZ, 2, .inl (zA ik))), (a9, .inl (cI, 9, .inl (zA sd))), (a10, .inl (cI, 9, .inl (zA ra))), (a11, .inl (cI, 9, .inl (zA bg))), (a12, .inl (cI, 4, .inl (zA to))), (a13, .inl (cI, 200, .inl (zA cd))), (a14, .inl (cI, 9, .inl (zA fi))), (a15, .inl (cI, 9, .inl (zA tsz))), (a16, .inl (cI, 9, .inl (zA tcm))), (a17, .inl (cI, 10, .inl (zA mg)))] H → va_D A [(a0, .inr (5, [.long mtr, .ref a1, .int (zI ty), .ref a2, .ref a3, .ref a4, .ref a5, .ref a6, .int (zI mat), .int (zI mst), .int (zI mso), .int (zI mva), .int (zI mfa), .ref a7, .ref a8, .ref a9, .int (zI mlo), .ref a10, .int (zI rm), .ref a11, .ref a12, .int (zI tm), .ref a13, .ref a14, .ref a15, .ref a16, .int (zI tmy), .ref a17])), (a1, .inl (cB, 200, .inl (zA tx))), (a2, .inl (cI, 2, .inl (zA pa))), (a3, .inl (cI, 18, .inl (zA ms))), (a4, .inl (cI, 18, .inl (zA ml))), (a5, .inl (cI, 18, .inl (zA mr))), (a6, .inl (cI, 18, .inl (zA mt))), (a7, .inl (cI, 1143, .inl (zA cur))), (a8, .inl (cZ, 2, .inl (zA ik))), (a9, .inl (cI, 9, .inl (zA sd))), (a10, .inl (cI, 9, .inl (zA ra))), (a11, .inl (cI, 9, .inl (zA bg))), (a12, .inl (cI, 4, .inl (zA to))), (a13, .inl (cI, 200, .inl (zA cd))), (a14, .inl (cI, 9, .inl (zA fi))), (a15, .inl (cI, 9, .inl (zA tsz))), (a16, .inl (cI, 9, .inl (zA tcm))), (a17, .inl (cI, 10, .inl (zA mg)))] → va_S A s.heap H locs → ∀ ls : Array Slot, lv_has ls 4 [(0, .ref a0), (1, .int (zI fr)), (2, .int (zI tt)), (3, .int (zI k))] → W p l e RM s m args below meth c H locs 0 0 QQ (F0 m 2 ls []) := by
    intro nM
    induction nM with
    | zero => intro k cur hmu; exact absurd hmu (Nat.not_lt_zero _)
    | succ nM ih2 =>
      intro k cur hmu hk hc H locs hP hD hS ls hl
      refine lv_iload_n hx hb dX6_copy_2 rfl (lv_at hl 3 rfl) ?_
      refine zv_sipush hx hb dX6_copy_3 (by decide +kernel) ?_
      refine zv_icmp_ge (tgt := 31) hx hb (by omega) (by omega) dX6_copy_6 (by decide) (fun c_6 => ?_) (fun c_6 => ?_)
      · rw [← hQQ]
        exact zw_vret hx hb hr hlocks (cur) rfl (by rw [hc, show k = 381 by omega]) hP hS dX6_copy_31
      · refine lv_aload_n hx hb dX6_copy_9 rfl (lv_at hl 0 rfl) ?_
        refine va_get (D := (dC, dI)) (ci := 5) (v := .ref a7) (C := RX6) (T := TX6) (N := 28) hx hb hts in_X6 hown hK hP 0 rfl rfl 13 (by decide) w_0 (fun _ h9 => h9) rfl dX6_copy_10 ?_
        refine lv_iload_n hx hb dX6_copy_13 rfl (lv_at hl 2 rfl) ?_
        refine lv_iload_n hx hb dX6_copy_14 rfl (lv_at hl 3 rfl) ?_
        refine zv_iadd hx hb dX6_copy_15 ?_
        refine lv_aload_n hx hb dX6_copy_16 rfl (lv_at hl 0 rfl) ?_
        refine va_get (D := (dC, dI)) (ci := 5) (v := .ref a7) (C := RX6) (T := TX6) (N := 28) hx hb hts in_X6 hown hK hP 0 rfl rfl 13 (by decide) w_0 (fun _ h9 => h9) rfl dX6_copy_17 ?_
        refine lv_iload_n hx hb dX6_copy_20 rfl (lv_at hl 1 rfl) ?_
        refine lv_iload_n hx hb dX6_copy_21 rfl (lv_at hl 3 rfl) ?_
        refine zv_iadd hx hb dX6_copy_22 ?_
        refine zv_iald hx hb hK hP 7 0 rfl rfl (by omega) dX6_copy_23 ?_
        refine zv_iast (ws' := [(a0, .inr (5, [.long mtr, .ref a1, .int (zI ty), .ref a2, .ref a3, .ref a4, .ref a5, .ref a6, .int (zI mat), .int (zI mst), .int (zI mso), .int (zI mva), .int (zI mfa), .ref a7, .ref a8, .ref a9, .int (zI mlo), .ref a10, .int (zI rm), .ref a11, .ref a12, .int (zI tm), .ref a13, .ref a14, .ref a15, .ref a16, .int (zI tmy), .ref a17])), (a1, .inl (cB, 200, .inl (zA tx))), (a2, .inl (cI, 2, .inl (zA pa))), (a3, .inl (cI, 18, .inl (zA ms))), (a4, .inl (cI, 18, .inl (zA ml))), (a5, .inl (cI, 18, .inl (zA mr))), (a6, .inl (cI, 18, .inl (zA mt))), (a7, .inl (cI, 1143, .inl (zA (zu cur (tt + k) (cur (fr + k)))))), (a8, .inl (cZ, 2, .inl (zA ik))), (a9, .inl (cI, 9, .inl (zA sd))), (a10, .inl (cI, 9, .inl (zA ra))), (a11, .inl (cI, 9, .inl (zA bg))), (a12, .inl (cI, 4, .inl (zA to))), (a13, .inl (cI, 200, .inl (zA cd))), (a14, .inl (cI, 9, .inl (zA fi))), (a15, .inl (cI, 9, .inl (zA tsz))), (a16, .inl (cI, 9, .inl (zA tcm))), (a17, .inl (cI, 10, .inl (zA mg)))]) hx hb hK hP hD hS 7 0 rfl rfl (by omega) rfl dX6_copy_24 (fun H locs hP hD hS => ?_)
        refine zv_iinc (k := 3) (a := k) (n := 1) (lv' := [(3, .int (zI (k + 1))), (0, .ref a0), (1, .int (zI fr)), (2, .int (zI tt))]) hx hb dX6_copy_25 hl rfl (by decide) rfl (fun ls hl => ?_)
        refine lv_goto (tgt := 2) hx hb dX6_copy_28 (by decide) ?_
        exact ih2 (k + 1) (zu cur (tt + k) (cur (fr + k))) (by omega) (by omega) (by rw [hc]; exact zc_s (by omega) (by omega)) _ _ hP hD hS _ (lv_sub hl [1, 2, 3, 0] rfl)
  refine zv_iconst hx hb dX6_copy_0 ?_
  refine lv_istore_n (lv' := [(3, .int (zI 0)), (0, .ref a0), (1, .int (zI fr)), (2, .int (zI tt))]) hx hb dX6_copy_1 rfl hl (by decide) rfl (fun ls hl => ?_)
  exact cut2 _ 0 nw (Nat.lt_succ_self _) (by omega) (by exact zc_0.symm) _ _ hP hD hS _ (lv_sub hl [1, 2, 3, 0] rfl)
set_option maxHeartbeats 4000000 in
set_option maxRecDepth 100000 in
theorem c_X6_keepN (l : Launch) (dC : Nat → ClassId) (dI : Nat → Nat → Nat) (cI cB cZ : ClassId) (a0 : Nat) (a1 : Nat) (a2 : Nat) (a3 : Nat) (a4 : Nat) (a5 : Nat) (a6 : Nat) (a7 : Nat) (a8 : Nat) (a9 : Nat) (a10 : Nat) (a11 : Nat) (a12 : Nat) (a13 : Nat) (a14 : Nat) (a15 : Nat) (a16 : Nat) (a17 : Nat) (mtr : Int64) (tx : Int → Int) (ty : Int) (pa : Int → Int) (ms : Int → Int) (ml : Int → Int) (mr : Int → Int) (mt : Int → Int) (mat : Int) (mst : Int) (mso : Int) (mva : Int) (mfa : Int) (nw : Int → Int) (ik : Int → Int) (sd : Int → Int) (mlo : Int) (ra : Int → Int) (rm : Int) (bg : Int → Int) (to : Int → Int) (tm : Int) (cd : Int → Int) (fi : Int → Int) (tsz : Int → Int) (tcm : Int → Int) (tmy : Int) (mg : Int → Int) (im : Int) (him : -2147483648 ≤ im ∧ im ≤ 2147483647) (hno : ¬ (im = 0 ∨ im = 1)) : MetR l yX6_keep wsX6_keep ({ frames := 1, cells := 0, slots := 0, locals := 22 }) (dC, dI) vwCl (zT cI cB cZ) zN [(a0, .inr (5, [.long mtr, .ref a1, .int (zI ty), .ref a2, .ref a3, .ref a4, .ref a5, .ref a6, .int (zI mat), .int (zI mst), .int (zI mso), .int (zI mva), .int (zI mfa), .ref a7, .ref a8, .ref a9, .int (zI mlo), .ref a10, .int (zI rm), .ref a11, .ref a12, .int (zI tm), .ref a13, .ref a14, .ref a15, .ref a16, .int (zI tmy), .ref a17])), (a1, .inl (cB, 200, .inl (zA tx))), (a2, .inl (cI, 2, .inl (zA pa))), (a3, .inl (cI, 18, .inl (zA ms))), (a4, .inl (cI, 18, .inl (zA ml))), (a5, .inl (cI, 18, .inl (zA mr))), (a6, .inl (cI, 18, .inl (zA mt))), (a7, .inl (cI, 1143, .inl (zA nw))), (a8, .inl (cZ, 2, .inl (zA ik))), (a9, .inl (cI, 9, .inl (zA sd))), (a10, .inl (cI, 9, .inl (zA ra))), (a11, .inl (cI, 9, .inl (zA bg))), (a12, .inl (cI, 4, .inl (zA to))), (a13, .inl (cI, 200, .inl (zA cd))), (a14, .inl (cI, 9, .inl (zA fi))), (a15, .inl (cI, 9, .inl (zA tsz))), (a16, .inl (cI, 9, .inl (zA tcm))), (a17, .inl (cI, 10, .inl (zA mg)))] [.ref a0, .int (zI im)] (zI (-1)) := by
  refine MetR.intro (cc := cX6_keep) (maxL := 2) (ret := (some .int)) (by decide) rfl (Nat.le_of_ble_eq_true rfl) ?_
  intro p e s m args below meth c hx hb hr hlocks hml hts hown hP hK hE ls hl
  have hown : s.vm.findClass RX6 = some m.cls := hown
  have hl : lv_has ls 2 [(0, .ref a0), (1, .int (zI im))] := hl
  generalize hRM : ({ frames := 1, cells := 0, slots := 0, locals := 22 } : Room) = RM
  generalize hQQ : MQ below (vp_Si (fun r => r = zI (-1))) args s 0 0 (fun _ => False) = QQ
  refine lv_iload_n hx hb dX6_keep_0 rfl (lv_at hl 1 rfl) ?_
  refine zv_iconst hx hb dX6_keep_1 ?_
  refine zv_iconst hx hb dX6_keep_2 ?_
  refine zv_callRS (As := [.int (zI im), .int (zI 0), .int (zI 1)]) (rest := []) ⟨hx, hb, hml, hown, hts⟩ (c_X6_in l dC dI cI cB cZ im 0 1 (by omega) (by omega) (by omega)) (va_cwS 3 hts gX6_keep_X6_in rfl rfl rfl (by decide +kernel) ⟨by rw [← hRM]; first | decide | (dsimp only; omega), by rw [← hRM]; first | decide | (dsimp only; omega)⟩) hP hK [] rfl [0, 1, 2] rfl zN_bl (zN_go hE) rfl hl.1 rfl (Nat.le_of_ble_eq_true rfl) dX6_keep_3 ⟨Nat.zero_le _, Nat.zero_le _⟩ ?_
  refine zv_ifne_b (tgt := 11) hx hb dX6_keep_6 (by decide) (fun c_6 => ?_) (fun c_6 => ?_)
  · exfalso; omega
  · refine zv_iconst hx hb dX6_keep_9 ?_
    rw [← hQQ]
    exact zr_iret hx hb hr hlocks (congrArg zI (show (-1) = -1 from by first | rfl | omega | exact (bZ_t (by omega)).symm | exact (bZ_f (by omega)).symm)) dX6_keep_10
set_option maxHeartbeats 4000000 in
set_option maxRecDepth 100000 in
theorem c_X6_keepY (l : Launch) (dC : Nat → ClassId) (dI : Nat → Nat → Nat) (cI cB cZ : ClassId) (a0 : Nat) (a1 : Nat) (a2 : Nat) (a3 : Nat) (a4 : Nat) (a5 : Nat) (a6 : Nat) (a7 : Nat) (a8 : Nat) (a9 : Nat) (a10 : Nat) (a11 : Nat) (a12 : Nat) (a13 : Nat) (a14 : Nat) (a15 : Nat) (a16 : Nat) (a17 : Nat) (mtr : Int64) (tx : Int → Int) (ty : Int) (pa : Int → Int) (ms : Int → Int) (ml : Int → Int) (mr : Int → Int) (mt : Int → Int) (mat : Int) (mst : Int) (mso : Int) (mva : Int) (mfa : Int) (nw : Int → Int) (ik : Int → Int) (sd : Int → Int) (mlo : Int) (ra : Int → Int) (rm : Int) (bg : Int → Int) (to : Int → Int) (tm : Int) (cd : Int → Int) (fi : Int → Int) (tsz : Int → Int) (tcm : Int → Int) (tmy : Int) (mg : Int → Int) (im : Int) (him : -2147483648 ≤ im ∧ im ≤ 2147483647) (hok : im = 0 ∨ im = 1) : MetW (S := (Int → Int)) l yX6_keep wsX6_keep ({ frames := 1, cells := 0, slots := 0, locals := 23 }) (dC, dI) vwCl (zT cI cB cZ) zN [(a0, .inr (5, [.long mtr, .ref a1, .int (zI ty), .ref a2, .ref a3, .ref a4, .ref a5, .ref a6, .int (zI mat), .int (zI mst), .int (zI mso), .int (zI mva), .int (zI mfa), .ref a7, .ref a8, .ref a9, .int (zI mlo), .ref a10, .int (zI rm), .ref a11, .ref a12, .int (zI tm), .ref a13, .ref a14, .ref a15, .ref a16, .int (zI tmy), .ref a17])), (a1, .inl (cB, 200, .inl (zA tx))), (a2, .inl (cI, 2, .inl (zA pa))), (a3, .inl (cI, 18, .inl (zA ms))), (a4, .inl (cI, 18, .inl (zA ml))), (a5, .inl (cI, 18, .inl (zA mr))), (a6, .inl (cI, 18, .inl (zA mt))), (a7, .inl (cI, 1143, .inl (zA nw))), (a8, .inl (cZ, 2, .inl (zA ik))), (a9, .inl (cI, 9, .inl (zA sd))), (a10, .inl (cI, 9, .inl (zA ra))), (a11, .inl (cI, 9, .inl (zA bg))), (a12, .inl (cI, 4, .inl (zA to))), (a13, .inl (cI, 200, .inl (zA cd))), (a14, .inl (cI, 9, .inl (zA fi))), (a15, .inl (cI, 9, .inl (zA tsz))), (a16, .inl (cI, 9, .inl (zA tcm))), (a17, .inl (cI, 10, .inl (zA mg)))] [.ref a0, .int (zI im)] (fun u => some (.int (zI (nw 19)))) (fun u => [(a0, .inr (5, [.long mtr, .ref a1, .int (zI ty), .ref a2, .ref a3, .ref a4, .ref a5, .ref a6, .int (zI mat), .int (zI mst), .int (zI mso), .int (zI mva), .int (zI mfa), .ref a7, .ref a8, .ref a9, .int (zI mlo), .ref a10, .int (zI rm), .ref a11, .ref a12, .int (zI tm), .ref a13, .ref a14, .ref a15, .ref a16, .int (zI tmy), .ref a17])), (a1, .inl (cB, 200, .inl (zA tx))), (a2, .inl (cI, 2, .inl (zA pa))), (a3, .inl (cI, 18, .inl (zA ms))), (a4, .inl (cI, 18, .inl (zA ml))), (a5, .inl (cI, 18, .inl (zA mr))), (a6, .inl (cI, 18, .inl (zA mt))), (a7, .inl (cI, 1143, .inl (zA u))), (a8, .inl (cZ, 2, .inl (zA (zu ik im 1)))), (a9, .inl (cI, 9, .inl (zA sd))), (a10, .inl (cI, 9, .inl (zA ra))), (a11, .inl (cI, 9, .inl (zA bg))), (a12, .inl (cI, 4, .inl (zA to))), (a13, .inl (cI, 200, .inl (zA cd))), (a14, .inl (cI, 9, .inl (zA fi))), (a15, .inl (cI, 9, .inl (zA tsz))), (a16, .inl (cI, 9, .inl (zA tcm))), (a17, .inl (cI, 10, .inl (zA mg)))]) (fun u => (u = zc nw nw 0 (381 * (1 + im)) 381)) := by
  refine MetW.intro (cc := cX6_keep) (maxL := 2) (ret := (some .int)) (by decide) rfl (Nat.le_of_ble_eq_true rfl) ?_
  intro p e s m args below meth c A hx hb hr hlocks hml hts hown hP hK hD hS hA hE ls hl
  have hown : s.vm.findClass RX6 = some m.cls := hown
  have hl : lv_has ls 2 [(0, .ref a0), (1, .int (zI im))] := hl
  generalize hRM : ({ frames := 1, cells := 0, slots := 0, locals := 23 } : Room) = RM
  generalize hQQ : MQ below (QW (S := (Int → Int)) (dC, dI) vwCl A (fun u => some (.int (zI (nw 19)))) (fun u => [(a0, .inr (5, [.long mtr, .ref a1, .int (zI ty), .ref a2, .ref a3, .ref a4, .ref a5, .ref a6, .int (zI mat), .int (zI mst), .int (zI mso), .int (zI mva), .int (zI mfa), .ref a7, .ref a8, .ref a9, .int (zI mlo), .ref a10, .int (zI rm), .ref a11, .ref a12, .int (zI tm), .ref a13, .ref a14, .ref a15, .ref a16, .int (zI tmy), .ref a17])), (a1, .inl (cB, 200, .inl (zA tx))), (a2, .inl (cI, 2, .inl (zA pa))), (a3, .inl (cI, 18, .inl (zA ms))), (a4, .inl (cI, 18, .inl (zA ml))), (a5, .inl (cI, 18, .inl (zA mr))), (a6, .inl (cI, 18, .inl (zA mt))), (a7, .inl (cI, 1143, .inl (zA u))), (a8, .inl (cZ, 2, .inl (zA (zu ik im 1)))), (a9, .inl (cI, 9, .inl (zA sd))), (a10, .inl (cI, 9, .inl (zA ra))), (a11, .inl (cI, 9, .inl (zA bg))), (a12, .inl (cI, 4, .inl (zA to))), (a13, .inl (cI, 200, .inl (zA cd))), (a14, .inl (cI, 9, .inl (zA fi))), (a15, .inl (cI, 9, .inl (zA tsz))), (a16, .inl (cI, 9, .inl (zA tcm))), (a17, .inl (cI, 10, .inl (zA mg)))]) (fun u => (u = zc nw nw 0 (381 * (1 + im)) 381))) args s 0 0 A = QQ
  have in_X6 : ∀ w ∈ wsX60, w ∈ wsX6_keep := by decide +kernel
  have w_0 := hts (.fieldLink RX6 32 "WallMarblesModel" "isKept" "[Z") (by decide +kernel)
  have w_1 := hts (.fieldLink RX6 29 "WallMarblesModel" "now" "[I") (by decide +kernel)
  refine lv_iload_n hx hb dX6_keep_0 rfl (lv_at hl 1 rfl) ?_
  refine zv_iconst hx hb dX6_keep_1 ?_
  refine zv_iconst hx hb dX6_keep_2 ?_
  refine zv_callRS (As := [.int (zI im), .int (zI 0), .int (zI 1)]) (rest := []) ⟨hx, hb, hml, hown, hts⟩ (c_X6_in l dC dI cI cB cZ im 0 1 (by omega) (by omega) (by omega)) (va_cwS 3 hts gX6_keep_X6_in rfl rfl rfl (by decide +kernel) ⟨by rw [← hRM]; first | decide | (dsimp only; omega), by rw [← hRM]; first | decide | (dsimp only; omega)⟩) hP hK [] rfl [0, 1, 2] rfl zN_bl (zN_go hE) rfl hl.1 rfl (Nat.le_of_ble_eq_true rfl) dX6_keep_3 ⟨Nat.zero_le _, Nat.zero_le _⟩ ?_
  refine zv_ifne_b (tgt := 11) hx hb dX6_keep_6 (by decide) (fun c_6 => ?_) (fun c_6 => ?_)
  · refine lv_aload_n hx hb dX6_keep_11 rfl (lv_at hl 0 rfl) ?_
    refine zv_iconst hx hb dX6_keep_12 ?_
    refine zv_sipush hx hb dX6_keep_13 (by decide +kernel) ?_
    refine zv_iconst hx hb dX6_keep_16 ?_
    refine lv_iload_n hx hb dX6_keep_17 rfl (lv_at hl 1 rfl) ?_
    refine zv_iadd hx hb dX6_keep_18 ?_
    refine zv_imul hx hb dX6_keep_19 ?_
    refine zv_callWVa (As := [.int (zI 0), .int (zI (381 * (1 + im)))]) (rest := []) ⟨hx, hb, hml, hown, hts⟩ (c_X6_copy l dC dI cI cB cZ a0 a1 a2 a3 a4 a5 a6 a7 a8 a9 a10 a11 a12 a13 a14 a15 a16 a17 mtr tx ty pa ms ml mr mt mat mst mso mva mfa nw ik sd mlo ra rm bg to tm cd fi tsz tcm tmy mg 0 (381 * (1 + im)) (by omega)) (cwV 2 hts gX6_keep_X6_copy rfl rfl rfl (by decide +kernel) ⟨by rw [← hRM]; first | decide | (dsimp only; omega), by rw [← hRM]; first | decide | (dsimp only; omega)⟩) hP hD hS hA hK zN_bl (zN_go hE) (fun _ => rfl) (q0 := 0) rfl rfl rfl rfl hl.1 rfl (Nat.le_of_ble_eq_true rfl) dX6_keep_20 ⟨Nat.zero_le _, Nat.zero_le _⟩ (fun u H locs hpo hP hD hS => ?_)
    obtain ⟨nw2_20, rfl⟩ : ∃ z, z = u := ⟨_, rfl⟩
    have hp0_20 : nw2_20 = zc nw nw 0 (381 * (1 + im)) 381 := hpo
    have hP : va_P (dC, dI) vwCl [(a0, .inr (5, [.long mtr, .ref a1, .int (zI ty), .ref a2, .ref a3, .ref a4, .ref a5, .ref a6, .int (zI mat), .int (zI mst), .int (zI mso), .int (zI mva), .int (zI mfa), .ref a7, .ref a8, .ref a9, .int (zI mlo), .ref a10, .int (zI rm), .ref a11, .ref a12, .int (zI tm), .ref a13, .ref a14, .ref a15, .ref a16, .int (zI tmy), .ref a17])), (a1, .inl (cB, 200, .inl (zA tx))), (a2, .inl (cI, 2, .inl (zA pa))), (a3, .inl (cI, 18, .inl (zA ms))), (a4, .inl (cI, 18, .inl (zA ml))), (a5, .inl (cI, 18, .inl (zA mr))), (a6, .inl (cI, 18, .inl (zA mt))), (a7, .inl (cI, 1143, .inl (zA nw2_20))), (a8, .inl (cZ, 2, .inl (zA ik))), (a9, .inl (cI, 9, .inl (zA sd))), (a10, .inl (cI, 9, .inl (zA ra))), (a11, .inl (cI, 9, .inl (zA bg))), (a12, .inl (cI, 4, .inl (zA to))), (a13, .inl (cI, 200, .inl (zA cd))), (a14, .inl (cI, 9, .inl (zA fi))), (a15, .inl (cI, 9, .inl (zA tsz))), (a16, .inl (cI, 9, .inl (zA tcm))), (a17, .inl (cI, 10, .inl (zA mg)))] H := hP
    have hD : va_D A [(a0, .inr (5, [.long mtr, .ref a1, .int (zI ty), .ref a2, .ref a3, .ref a4, .ref a5, .ref a6, .int (zI mat), .int (zI mst), .int (zI mso), .int (zI mva), .int (zI mfa), .ref a7, .ref a8, .ref a9, .int (zI mlo), .ref a10, .int (zI rm), .ref a11, .ref a12, .int (zI tm), .ref a13, .ref a14, .ref a15, .ref a16, .int (zI tmy), .ref a17])), (a1, .inl (cB, 200, .inl (zA tx))), (a2, .inl (cI, 2, .inl (zA pa))), (a3, .inl (cI, 18, .inl (zA ms))), (a4, .inl (cI, 18, .inl (zA ml))), (a5, .inl (cI, 18, .inl (zA mr))), (a6, .inl (cI, 18, .inl (zA mt))), (a7, .inl (cI, 1143, .inl (zA nw2_20))), (a8, .inl (cZ, 2, .inl (zA ik))), (a9, .inl (cI, 9, .inl (zA sd))), (a10, .inl (cI, 9, .inl (zA ra))), (a11, .inl (cI, 9, .inl (zA bg))), (a12, .inl (cI, 4, .inl (zA to))), (a13, .inl (cI, 200, .inl (zA cd))), (a14, .inl (cI, 9, .inl (zA fi))), (a15, .inl (cI, 9, .inl (zA tsz))), (a16, .inl (cI, 9, .inl (zA tcm))), (a17, .inl (cI, 10, .inl (zA mg)))] := hD
    refine W.eq (g2 := F0 m 23 ls []) rfl ?_
    subst hp0_20
    refine lv_aload_n hx hb dX6_keep_23 rfl (lv_at hl 0 rfl) ?_
    refine va_get (D := (dC, dI)) (ci := 5) (v := .ref a8) (C := RX6) (T := TX6) (N := 28) hx hb hts in_X6 hown hK hP 0 rfl rfl 14 (by decide) w_0 (fun _ h9 => h9) rfl dX6_keep_24 ?_
    refine lv_iload_n hx hb dX6_keep_27 rfl (lv_at hl 1 rfl) ?_
    refine zv_iconst hx hb dX6_keep_28 ?_
    refine zv_zast (ws' := [(a0, .inr (5, [.long mtr, .ref a1, .int (zI ty), .ref a2, .ref a3, .ref a4, .ref a5, .ref a6, .int (zI mat), .int (zI mst), .int (zI mso), .int (zI mva), .int (zI mfa), .ref a7, .ref a8, .ref a9, .int (zI mlo), .ref a10, .int (zI rm), .ref a11, .ref a12, .int (zI tm), .ref a13, .ref a14, .ref a15, .ref a16, .int (zI tmy), .ref a17])), (a1, .inl (cB, 200, .inl (zA tx))), (a2, .inl (cI, 2, .inl (zA pa))), (a3, .inl (cI, 18, .inl (zA ms))), (a4, .inl (cI, 18, .inl (zA ml))), (a5, .inl (cI, 18, .inl (zA mr))), (a6, .inl (cI, 18, .inl (zA mt))), (a7, .inl (cI, 1143, .inl (zA (zc nw nw 0 (381 * (1 + im)) 381)))), (a8, .inl (cZ, 2, .inl (zA (zu ik im 1)))), (a9, .inl (cI, 9, .inl (zA sd))), (a10, .inl (cI, 9, .inl (zA ra))), (a11, .inl (cI, 9, .inl (zA bg))), (a12, .inl (cI, 4, .inl (zA to))), (a13, .inl (cI, 200, .inl (zA cd))), (a14, .inl (cI, 9, .inl (zA fi))), (a15, .inl (cI, 9, .inl (zA tsz))), (a16, .inl (cI, 9, .inl (zA tcm))), (a17, .inl (cI, 10, .inl (zA mg)))]) hx hb hK hP hD hS 8 2 rfl rfl (by decide +kernel) (by omega) rfl dX6_keep_29 (fun H locs hP hD hS => ?_)
    refine lv_aload_n hx hb dX6_keep_30 rfl (lv_at hl 0 rfl) ?_
    refine va_get (D := (dC, dI)) (ci := 5) (v := .ref a7) (C := RX6) (T := TX6) (N := 28) hx hb hts in_X6 hown hK hP 0 rfl rfl 13 (by decide) w_1 (fun _ h9 => h9) rfl dX6_keep_31 ?_
    refine zv_bipush hx hb dX6_keep_34 (by decide +kernel) ?_
    refine zv_iald hx hb hK hP 7 0 rfl rfl (by omega) dX6_keep_36 ?_
    rw [← hQQ]
    exact zw_iret hx hb hr hlocks ((zc nw nw 0 (381 * (1 + im)) 381)) (congrArg (fun z => some (Value.int (zI z))) (show nw 19 = (zc nw nw 0 (381 * (1 + im)) 381) 19 from by exact (if_neg (by omega)).symm)) (by rfl) hP hS dX6_keep_37
  · exfalso; omega
set_option maxHeartbeats 4000000 in
set_option maxRecDepth 100000 in
theorem c_X6_backN (l : Launch) (dC : Nat → ClassId) (dI : Nat → Nat → Nat) (cI cB cZ : ClassId) (a0 : Nat) (a1 : Nat) (a2 : Nat) (a3 : Nat) (a4 : Nat) (a5 : Nat) (a6 : Nat) (a7 : Nat) (a8 : Nat) (a9 : Nat) (a10 : Nat) (a11 : Nat) (a12 : Nat) (a13 : Nat) (a14 : Nat) (a15 : Nat) (a16 : Nat) (a17 : Nat) (mtr : Int64) (tx : Int → Int) (ty : Int) (pa : Int → Int) (ms : Int → Int) (ml : Int → Int) (mr : Int → Int) (mt : Int → Int) (mat : Int) (mst : Int) (mso : Int) (mva : Int) (mfa : Int) (nw : Int → Int) (ik : Int → Int) (sd : Int → Int) (mlo : Int) (ra : Int → Int) (rm : Int) (bg : Int → Int) (to : Int → Int) (tm : Int) (cd : Int → Int) (fi : Int → Int) (tsz : Int → Int) (tcm : Int → Int) (tmy : Int) (mg : Int → Int) (im : Int) (him : -2147483648 ≤ im ∧ im ≤ 2147483647) (hik : (ik 0 = 0 ∨ ik 0 = 1) ∧ (ik 1 = 0 ∨ ik 1 = 1)) (hno : ¬ ((im = 0 ∧ ik 0 = 1) ∨ (im = 1 ∧ ik 1 = 1))) : MetR l yX6_back wsX6_back ({ frames := 1, cells := 0, slots := 0, locals := 22 }) (dC, dI) vwCl (zT cI cB cZ) zN [(a0, .inr (5, [.long mtr, .ref a1, .int (zI ty), .ref a2, .ref a3, .ref a4, .ref a5, .ref a6, .int (zI mat), .int (zI mst), .int (zI mso), .int (zI mva), .int (zI mfa), .ref a7, .ref a8, .ref a9, .int (zI mlo), .ref a10, .int (zI rm), .ref a11, .ref a12, .int (zI tm), .ref a13, .ref a14, .ref a15, .ref a16, .int (zI tmy), .ref a17])), (a1, .inl (cB, 200, .inl (zA tx))), (a2, .inl (cI, 2, .inl (zA pa))), (a3, .inl (cI, 18, .inl (zA ms))), (a4, .inl (cI, 18, .inl (zA ml))), (a5, .inl (cI, 18, .inl (zA mr))), (a6, .inl (cI, 18, .inl (zA mt))), (a7, .inl (cI, 1143, .inl (zA nw))), (a8, .inl (cZ, 2, .inl (zA ik))), (a9, .inl (cI, 9, .inl (zA sd))), (a10, .inl (cI, 9, .inl (zA ra))), (a11, .inl (cI, 9, .inl (zA bg))), (a12, .inl (cI, 4, .inl (zA to))), (a13, .inl (cI, 200, .inl (zA cd))), (a14, .inl (cI, 9, .inl (zA fi))), (a15, .inl (cI, 9, .inl (zA tsz))), (a16, .inl (cI, 9, .inl (zA tcm))), (a17, .inl (cI, 10, .inl (zA mg)))] [.ref a0, .int (zI im)] (zI (if im = 0 ∨ im = 1 then -2 else -1)) := by
  refine MetR.intro (cc := cX6_back) (maxL := 2) (ret := (some .int)) (by decide) rfl (Nat.le_of_ble_eq_true rfl) ?_
  intro p e s m args below meth c hx hb hr hlocks hml hts hown hP hK hE ls hl
  have hown : s.vm.findClass RX6 = some m.cls := hown
  have hl : lv_has ls 2 [(0, .ref a0), (1, .int (zI im))] := hl
  generalize hRM : ({ frames := 1, cells := 0, slots := 0, locals := 22 } : Room) = RM
  generalize hQQ : MQ below (vp_Si (fun r => r = zI (if im = 0 ∨ im = 1 then -2 else -1))) args s 0 0 (fun _ => False) = QQ
  have in_X6 : ∀ w ∈ wsX60, w ∈ wsX6_back := by decide +kernel
  have w_0 := hts (.fieldLink RX6 32 "WallMarblesModel" "isKept" "[Z") (by decide +kernel)
  refine lv_iload_n hx hb dX6_back_0 rfl (lv_at hl 1 rfl) ?_
  refine zv_iconst hx hb dX6_back_1 ?_
  refine zv_iconst hx hb dX6_back_2 ?_
  refine zv_callRS (As := [.int (zI im), .int (zI 0), .int (zI 1)]) (rest := []) ⟨hx, hb, hml, hown, hts⟩ (c_X6_in l dC dI cI cB cZ im 0 1 (by omega) (by omega) (by omega)) (va_cwS 3 hts gX6_back_X6_in rfl rfl rfl (by decide +kernel) ⟨by rw [← hRM]; first | decide | (dsimp only; omega), by rw [← hRM]; first | decide | (dsimp only; omega)⟩) hP hK [] rfl [0, 1, 2] rfl zN_bl (zN_go hE) rfl hl.1 rfl (Nat.le_of_ble_eq_true rfl) dX6_back_3 ⟨Nat.zero_le _, Nat.zero_le _⟩ ?_
  refine zv_ifne_b (tgt := 11) hx hb dX6_back_6 (by decide) (fun c_6 => ?_) (fun c_6 => ?_)
  · refine lv_aload_n hx hb dX6_back_11 rfl (lv_at hl 0 rfl) ?_
    refine va_get (D := (dC, dI)) (ci := 5) (v := .ref a8) (C := RX6) (T := TX6) (N := 28) hx hb hts in_X6 hown hK hP 0 rfl rfl 14 (by decide) w_0 (fun _ h9 => h9) rfl dX6_back_12 ?_
    refine lv_iload_n hx hb dX6_back_15 rfl (lv_at hl 1 rfl) ?_
    refine zv_zald hx hb hK hP 8 2 rfl rfl (by omega) dX6_back_16 ?_
    refine zv_if_ne (tgt := 23) hx hb (by rcases (show im = 0 ∨ im = 1 by omega) with q | q <;> rw [q] <;> omega) dX6_back_17 (by decide) (fun c_17 => ?_) (fun c_17 => ?_)
    · exfalso; rcases (show im = 0 ∨ im = 1 by omega) with q | q <;> rw [q] at c_17 <;> omega
    · refine zv_bipush hx hb dX6_back_20 (by decide +kernel) ?_
      rw [← hQQ]
      exact zr_iret hx hb hr hlocks (congrArg zI (show (-2) = if im = 0 ∨ im = 1 then -2 else -1 from by split <;> first | rfl | omega)) dX6_back_22
  · refine zv_iconst hx hb dX6_back_9 ?_
    rw [← hQQ]
    exact zr_iret hx hb hr hlocks (congrArg zI (show (-1) = if im = 0 ∨ im = 1 then -2 else -1 from by split <;> first | rfl | omega)) dX6_back_10
set_option maxHeartbeats 4000000 in
set_option maxRecDepth 100000 in
theorem c_X6_backY (l : Launch) (dC : Nat → ClassId) (dI : Nat → Nat → Nat) (cI cB cZ : ClassId) (a0 : Nat) (a1 : Nat) (a2 : Nat) (a3 : Nat) (a4 : Nat) (a5 : Nat) (a6 : Nat) (a7 : Nat) (a8 : Nat) (a9 : Nat) (a10 : Nat) (a11 : Nat) (a12 : Nat) (a13 : Nat) (a14 : Nat) (a15 : Nat) (a16 : Nat) (a17 : Nat) (mtr : Int64) (tx : Int → Int) (ty : Int) (pa : Int → Int) (ms : Int → Int) (ml : Int → Int) (mr : Int → Int) (mt : Int → Int) (mat : Int) (mst : Int) (mso : Int) (mva : Int) (mfa : Int) (nw : Int → Int) (ik : Int → Int) (sd : Int → Int) (mlo : Int) (ra : Int → Int) (rm : Int) (bg : Int → Int) (to : Int → Int) (tm : Int) (cd : Int → Int) (fi : Int → Int) (tsz : Int → Int) (tcm : Int → Int) (tmy : Int) (mg : Int → Int) (im : Int) (him : -2147483648 ≤ im ∧ im ≤ 2147483647) (hik : (ik 0 = 0 ∨ ik 0 = 1) ∧ (ik 1 = 0 ∨ ik 1 = 1)) (hok : (im = 0 ∧ ik 0 = 1) ∨ (im = 1 ∧ ik 1 = 1)) : MetW (S := (Int → Int)) l yX6_back wsX6_back ({ frames := 1, cells := 0, slots := 0, locals := 23 }) (dC, dI) vwCl (zT cI cB cZ) zN [(a0, .inr (5, [.long mtr, .ref a1, .int (zI ty), .ref a2, .ref a3, .ref a4, .ref a5, .ref a6, .int (zI mat), .int (zI mst), .int (zI mso), .int (zI mva), .int (zI mfa), .ref a7, .ref a8, .ref a9, .int (zI mlo), .ref a10, .int (zI rm), .ref a11, .ref a12, .int (zI tm), .ref a13, .ref a14, .ref a15, .ref a16, .int (zI tmy), .ref a17])), (a1, .inl (cB, 200, .inl (zA tx))), (a2, .inl (cI, 2, .inl (zA pa))), (a3, .inl (cI, 18, .inl (zA ms))), (a4, .inl (cI, 18, .inl (zA ml))), (a5, .inl (cI, 18, .inl (zA mr))), (a6, .inl (cI, 18, .inl (zA mt))), (a7, .inl (cI, 1143, .inl (zA nw))), (a8, .inl (cZ, 2, .inl (zA ik))), (a9, .inl (cI, 9, .inl (zA sd))), (a10, .inl (cI, 9, .inl (zA ra))), (a11, .inl (cI, 9, .inl (zA bg))), (a12, .inl (cI, 4, .inl (zA to))), (a13, .inl (cI, 200, .inl (zA cd))), (a14, .inl (cI, 9, .inl (zA fi))), (a15, .inl (cI, 9, .inl (zA tsz))), (a16, .inl (cI, 9, .inl (zA tcm))), (a17, .inl (cI, 10, .inl (zA mg)))] [.ref a0, .int (zI im)] (fun u => some (.int (zI (nw (381 * (1 + im) + 19))))) (fun u => [(a0, .inr (5, [.long mtr, .ref a1, .int (zI ty), .ref a2, .ref a3, .ref a4, .ref a5, .ref a6, .int (zI mat), .int (zI mst), .int (zI mso), .int (zI mva), .int (zI mfa), .ref a7, .ref a8, .ref a9, .int (zI mlo), .ref a10, .int (zI rm), .ref a11, .ref a12, .int (zI tm), .ref a13, .ref a14, .ref a15, .ref a16, .int (zI tmy), .ref a17])), (a1, .inl (cB, 200, .inl (zA tx))), (a2, .inl (cI, 2, .inl (zA pa))), (a3, .inl (cI, 18, .inl (zA ms))), (a4, .inl (cI, 18, .inl (zA ml))), (a5, .inl (cI, 18, .inl (zA mr))), (a6, .inl (cI, 18, .inl (zA mt))), (a7, .inl (cI, 1143, .inl (zA u))), (a8, .inl (cZ, 2, .inl (zA ik))), (a9, .inl (cI, 9, .inl (zA sd))), (a10, .inl (cI, 9, .inl (zA ra))), (a11, .inl (cI, 9, .inl (zA bg))), (a12, .inl (cI, 4, .inl (zA to))), (a13, .inl (cI, 200, .inl (zA cd))), (a14, .inl (cI, 9, .inl (zA fi))), (a15, .inl (cI, 9, .inl (zA tsz))), (a16, .inl (cI, 9, .inl (zA tcm))), (a17, .inl (cI, 10, .inl (zA mg)))]) (fun u => (u = zc nw nw (381 * (1 + im)) 0 381)) := by
  refine MetW.intro (cc := cX6_back) (maxL := 2) (ret := (some .int)) (by decide) rfl (Nat.le_of_ble_eq_true rfl) ?_
  intro p e s m args below meth c A hx hb hr hlocks hml hts hown hP hK hD hS hA hE ls hl
  have hown : s.vm.findClass RX6 = some m.cls := hown
  have hl : lv_has ls 2 [(0, .ref a0), (1, .int (zI im))] := hl
  generalize hRM : ({ frames := 1, cells := 0, slots := 0, locals := 23 } : Room) = RM
  generalize hQQ : MQ below (QW (S := (Int → Int)) (dC, dI) vwCl A (fun u => some (.int (zI (nw (381 * (1 + im) + 19))))) (fun u => [(a0, .inr (5, [.long mtr, .ref a1, .int (zI ty), .ref a2, .ref a3, .ref a4, .ref a5, .ref a6, .int (zI mat), .int (zI mst), .int (zI mso), .int (zI mva), .int (zI mfa), .ref a7, .ref a8, .ref a9, .int (zI mlo), .ref a10, .int (zI rm), .ref a11, .ref a12, .int (zI tm), .ref a13, .ref a14, .ref a15, .ref a16, .int (zI tmy), .ref a17])), (a1, .inl (cB, 200, .inl (zA tx))), (a2, .inl (cI, 2, .inl (zA pa))), (a3, .inl (cI, 18, .inl (zA ms))), (a4, .inl (cI, 18, .inl (zA ml))), (a5, .inl (cI, 18, .inl (zA mr))), (a6, .inl (cI, 18, .inl (zA mt))), (a7, .inl (cI, 1143, .inl (zA u))), (a8, .inl (cZ, 2, .inl (zA ik))), (a9, .inl (cI, 9, .inl (zA sd))), (a10, .inl (cI, 9, .inl (zA ra))), (a11, .inl (cI, 9, .inl (zA bg))), (a12, .inl (cI, 4, .inl (zA to))), (a13, .inl (cI, 200, .inl (zA cd))), (a14, .inl (cI, 9, .inl (zA fi))), (a15, .inl (cI, 9, .inl (zA tsz))), (a16, .inl (cI, 9, .inl (zA tcm))), (a17, .inl (cI, 10, .inl (zA mg)))]) (fun u => (u = zc nw nw (381 * (1 + im)) 0 381))) args s 0 0 A = QQ
  have in_X6 : ∀ w ∈ wsX60, w ∈ wsX6_back := by decide +kernel
  have w_0 := hts (.fieldLink RX6 32 "WallMarblesModel" "isKept" "[Z") (by decide +kernel)
  have w_1 := hts (.fieldLink RX6 29 "WallMarblesModel" "now" "[I") (by decide +kernel)
  refine lv_iload_n hx hb dX6_back_0 rfl (lv_at hl 1 rfl) ?_
  refine zv_iconst hx hb dX6_back_1 ?_
  refine zv_iconst hx hb dX6_back_2 ?_
  refine zv_callRS (As := [.int (zI im), .int (zI 0), .int (zI 1)]) (rest := []) ⟨hx, hb, hml, hown, hts⟩ (c_X6_in l dC dI cI cB cZ im 0 1 (by omega) (by omega) (by omega)) (va_cwS 3 hts gX6_back_X6_in rfl rfl rfl (by decide +kernel) ⟨by rw [← hRM]; first | decide | (dsimp only; omega), by rw [← hRM]; first | decide | (dsimp only; omega)⟩) hP hK [] rfl [0, 1, 2] rfl zN_bl (zN_go hE) rfl hl.1 rfl (Nat.le_of_ble_eq_true rfl) dX6_back_3 ⟨Nat.zero_le _, Nat.zero_le _⟩ ?_
  refine zv_ifne_b (tgt := 11) hx hb dX6_back_6 (by decide) (fun c_6 => ?_) (fun c_6 => ?_)
  · refine lv_aload_n hx hb dX6_back_11 rfl (lv_at hl 0 rfl) ?_
    refine va_get (D := (dC, dI)) (ci := 5) (v := .ref a8) (C := RX6) (T := TX6) (N := 28) hx hb hts in_X6 hown hK hP 0 rfl rfl 14 (by decide) w_0 (fun _ h9 => h9) rfl dX6_back_12 ?_
    refine lv_iload_n hx hb dX6_back_15 rfl (lv_at hl 1 rfl) ?_
    refine zv_zald hx hb hK hP 8 2 rfl rfl (by omega) dX6_back_16 ?_
    refine zv_if_ne (tgt := 23) hx hb (by rcases (show im = 0 ∨ im = 1 by omega) with q | q <;> rw [q] <;> omega) dX6_back_17 (by decide) (fun c_17 => ?_) (fun c_17 => ?_)
    · refine lv_aload_n hx hb dX6_back_23 rfl (lv_at hl 0 rfl) ?_
      refine zv_sipush hx hb dX6_back_24 (by decide +kernel) ?_
      refine zv_iconst hx hb dX6_back_27 ?_
      refine lv_iload_n hx hb dX6_back_28 rfl (lv_at hl 1 rfl) ?_
      refine zv_iadd hx hb dX6_back_29 ?_
      refine zv_imul hx hb dX6_back_30 ?_
      refine zv_iconst hx hb dX6_back_31 ?_
      refine zv_callWVa (As := [.int (zI (381 * (1 + im))), .int (zI 0)]) (rest := []) ⟨hx, hb, hml, hown, hts⟩ (c_X6_copy l dC dI cI cB cZ a0 a1 a2 a3 a4 a5 a6 a7 a8 a9 a10 a11 a12 a13 a14 a15 a16 a17 mtr tx ty pa ms ml mr mt mat mst mso mva mfa nw ik sd mlo ra rm bg to tm cd fi tsz tcm tmy mg (381 * (1 + im)) 0 (by omega)) (cwV 2 hts gX6_back_X6_copy rfl rfl rfl (by decide +kernel) ⟨by rw [← hRM]; first | decide | (dsimp only; omega), by rw [← hRM]; first | decide | (dsimp only; omega)⟩) hP hD hS hA hK zN_bl (zN_go hE) (fun _ => rfl) (q0 := 0) rfl rfl rfl rfl hl.1 rfl (Nat.le_of_ble_eq_true rfl) dX6_back_32 ⟨Nat.zero_le _, Nat.zero_le _⟩ (fun u H locs hpo hP hD hS => ?_)
      obtain ⟨nw2_32, rfl⟩ : ∃ z, z = u := ⟨_, rfl⟩
      have hp0_32 : nw2_32 = zc nw nw (381 * (1 + im)) 0 381 := hpo
      have hP : va_P (dC, dI) vwCl [(a0, .inr (5, [.long mtr, .ref a1, .int (zI ty), .ref a2, .ref a3, .ref a4, .ref a5, .ref a6, .int (zI mat), .int (zI mst), .int (zI mso), .int (zI mva), .int (zI mfa), .ref a7, .ref a8, .ref a9, .int (zI mlo), .ref a10, .int (zI rm), .ref a11, .ref a12, .int (zI tm), .ref a13, .ref a14, .ref a15, .ref a16, .int (zI tmy), .ref a17])), (a1, .inl (cB, 200, .inl (zA tx))), (a2, .inl (cI, 2, .inl (zA pa))), (a3, .inl (cI, 18, .inl (zA ms))), (a4, .inl (cI, 18, .inl (zA ml))), (a5, .inl (cI, 18, .inl (zA mr))), (a6, .inl (cI, 18, .inl (zA mt))), (a7, .inl (cI, 1143, .inl (zA nw2_32))), (a8, .inl (cZ, 2, .inl (zA ik))), (a9, .inl (cI, 9, .inl (zA sd))), (a10, .inl (cI, 9, .inl (zA ra))), (a11, .inl (cI, 9, .inl (zA bg))), (a12, .inl (cI, 4, .inl (zA to))), (a13, .inl (cI, 200, .inl (zA cd))), (a14, .inl (cI, 9, .inl (zA fi))), (a15, .inl (cI, 9, .inl (zA tsz))), (a16, .inl (cI, 9, .inl (zA tcm))), (a17, .inl (cI, 10, .inl (zA mg)))] H := hP
      have hD : va_D A [(a0, .inr (5, [.long mtr, .ref a1, .int (zI ty), .ref a2, .ref a3, .ref a4, .ref a5, .ref a6, .int (zI mat), .int (zI mst), .int (zI mso), .int (zI mva), .int (zI mfa), .ref a7, .ref a8, .ref a9, .int (zI mlo), .ref a10, .int (zI rm), .ref a11, .ref a12, .int (zI tm), .ref a13, .ref a14, .ref a15, .ref a16, .int (zI tmy), .ref a17])), (a1, .inl (cB, 200, .inl (zA tx))), (a2, .inl (cI, 2, .inl (zA pa))), (a3, .inl (cI, 18, .inl (zA ms))), (a4, .inl (cI, 18, .inl (zA ml))), (a5, .inl (cI, 18, .inl (zA mr))), (a6, .inl (cI, 18, .inl (zA mt))), (a7, .inl (cI, 1143, .inl (zA nw2_32))), (a8, .inl (cZ, 2, .inl (zA ik))), (a9, .inl (cI, 9, .inl (zA sd))), (a10, .inl (cI, 9, .inl (zA ra))), (a11, .inl (cI, 9, .inl (zA bg))), (a12, .inl (cI, 4, .inl (zA to))), (a13, .inl (cI, 200, .inl (zA cd))), (a14, .inl (cI, 9, .inl (zA fi))), (a15, .inl (cI, 9, .inl (zA tsz))), (a16, .inl (cI, 9, .inl (zA tcm))), (a17, .inl (cI, 10, .inl (zA mg)))] := hD
      refine W.eq (g2 := F0 m 35 ls []) rfl ?_
      subst hp0_32
      refine lv_aload_n hx hb dX6_back_35 rfl (lv_at hl 0 rfl) ?_
      refine va_get (D := (dC, dI)) (ci := 5) (v := .ref a7) (C := RX6) (T := TX6) (N := 28) hx hb hts in_X6 hown hK hP 0 rfl rfl 13 (by decide) w_1 (fun _ h9 => h9) rfl dX6_back_36 ?_
      refine zv_bipush hx hb dX6_back_39 (by decide +kernel) ?_
      refine zv_iald hx hb hK hP 7 0 rfl rfl (by omega) dX6_back_41 ?_
      rw [← hQQ]
      exact zw_iret hx hb hr hlocks ((zc nw nw (381 * (1 + im)) 0 381)) (congrArg (fun z => some (Value.int (zI z))) (show nw (381 * (1 + im) + 19) = (zc nw nw (381 * (1 + im)) 0 381) 19 from by exact (if_pos (by omega)).symm)) (by rfl) hP hS dX6_back_42
    · exfalso; rcases (show im = 0 ∨ im = 1 by omega) with q | q <;> rw [q] at c_17 <;> omega
  · exfalso; omega
set_option maxHeartbeats 4000000 in
set_option maxRecDepth 100000 in
theorem c_X6_count (l : Launch) (dC : Nat → ClassId) (dI : Nat → Nat → Nat) (cI cB cZ : ClassId) (a0 : Nat) (a1 : Nat) (a2 : Nat) (a3 : Nat) (a4 : Nat) (a5 : Nat) (a6 : Nat) (a7 : Nat) (a8 : Nat) (a9 : Nat) (a10 : Nat) (a11 : Nat) (a12 : Nat) (a13 : Nat) (a14 : Nat) (a15 : Nat) (a16 : Nat) (a17 : Nat) (mtr : Int64) (tx : Int → Int) (ty : Int) (pa : Int → Int) (ms : Int → Int) (ml : Int → Int) (mr : Int → Int) (mt : Int → Int) (mat : Int) (mst : Int) (mso : Int) (mva : Int) (mfa : Int) (nw : Int → Int) (ik : Int → Int) (sd : Int → Int) (mlo : Int) (ra : Int → Int) (rm : Int) (bg : Int → Int) (to : Int → Int) (tm : Int) (cd : Int → Int) (fi : Int → Int) (tsz : Int → Int) (tcm : Int → Int) (tmy : Int) (mg : Int → Int) (w : Int) (hh : hOk (pa 0) ms ml mr mt) (hwr : -2147483648 ≤ w ∧ w ≤ 2147483647) : MetR l yX6_count wsX6_count ({ frames := 0, cells := 0, slots := 0, locals := 0 }) (dC, dI) vwCl (zT cI cB cZ) zN [(a0, .inr (5, [.long mtr, .ref a1, .int (zI ty), .ref a2, .ref a3, .ref a4, .ref a5, .ref a6, .int (zI mat), .int (zI mst), .int (zI mso), .int (zI mva), .int (zI mfa), .ref a7, .ref a8, .ref a9, .int (zI mlo), .ref a10, .int (zI rm), .ref a11, .ref a12, .int (zI tm), .ref a13, .ref a14, .ref a15, .ref a16, .int (zI tmy), .ref a17])), (a1, .inl (cB, 200, .inl (zA tx))), (a2, .inl (cI, 2, .inl (zA pa))), (a3, .inl (cI, 18, .inl (zA ms))), (a4, .inl (cI, 18, .inl (zA ml))), (a5, .inl (cI, 18, .inl (zA mr))), (a6, .inl (cI, 18, .inl (zA mt))), (a7, .inl (cI, 1143, .inl (zA nw))), (a8, .inl (cZ, 2, .inl (zA ik))), (a9, .inl (cI, 9, .inl (zA sd))), (a10, .inl (cI, 9, .inl (zA ra))), (a11, .inl (cI, 9, .inl (zA bg))), (a12, .inl (cI, 4, .inl (zA to))), (a13, .inl (cI, 200, .inl (zA cd))), (a14, .inl (cI, 9, .inl (zA fi))), (a15, .inl (cI, 9, .inl (zA tsz))), (a16, .inl (cI, 9, .inl (zA tcm))), (a17, .inl (cI, 10, .inl (zA mg)))] [.ref a0, .int (zI w)] (zI (q_count (pa 0) ms tmy (nw 20) ty w)) := by
  refine MetR.intro (cc := cX6_count) (maxL := 4) (ret := (some .int)) (by decide) rfl (Nat.le_of_ble_eq_true rfl) ?_
  intro p e s m args below meth c hx hb hr hlocks hml hts hown hP hK hE ls hl
  have hown : s.vm.findClass RX6 = some m.cls := hown
  have hl : lv_has ls 4 [(0, .ref a0), (1, .int (zI w))] := hl
  generalize hRM : ({ frames := 0, cells := 0, slots := 0, locals := 0 } : Room) = RM
  generalize hQQ : MQ below (vp_Si (fun r => r = zI (q_count (pa 0) ms tmy (nw 20) ty w))) args s 0 0 (fun _ => False) = QQ
  have in_X6 : ∀ w ∈ wsX60, w ∈ wsX6_count := by decide +kernel
  have w_0 := hts (.fieldLink RX6 13 "WallMarblesModel" "parts" "[I") (by decide +kernel)
  have w_1 := hts (.fieldLink RX6 109 "WallMarblesModel" "triedMany" "I") (by decide +kernel)
  have w_2 := hts (.fieldLink RX6 29 "WallMarblesModel" "now" "[I") (by decide +kernel)
  have w_3 := hts (.fieldLink RX6 67 "WallMarblesModel" "typed" "I") (by decide +kernel)
  have w_4 := hts (.fieldLink RX6 17 "WallMarblesModel" "sorts" "[I") (by decide +kernel)
  have hn := hh.1
  have cut4 : ∀ (nM : Nat) (ld : Int) (k : Int),  ((pa 0 - k).toNat) < nM → (0 ≤ k ∧ k ≤ pa 0) → (ld = sF (gL ms) k.toNat) → ∀ ls : Array Slot, lv_has ls 4 [(0, .ref a0), (1, .int (zI w)), (2, .int (zI ld)), (3, .int (zI k))] → W p l e RM s m args below meth c s.heap [] 0 0 QQ (F0 m 4 ls []) := by
    intro nM
    induction nM with
    | zero => intro ld k hmu; exact absurd hmu (Nat.not_lt_zero _)
    | succ nM ih4 =>
      intro ld k hmu hk hc1 ls hl
      refine lv_iload_n hx hb dX6_count_4 rfl (lv_at hl 3 rfl) ?_
      refine lv_aload_n hx hb dX6_count_5 rfl (lv_at hl 0 rfl) ?_
      refine va_get (D := (dC, dI)) (ci := 5) (v := .ref a2) (C := RX6) (T := TX6) (N := 28) hx hb hts in_X6 hown hK hP 0 rfl rfl 3 (by decide) w_0 (fun _ h9 => h9) rfl dX6_count_6 ?_
      refine zv_iconst hx hb dX6_count_9 ?_
      refine zv_iald hx hb hK hP 2 0 rfl rfl (by omega) dX6_count_10 ?_
      refine zv_icmp_ge (tgt := 37) hx hb (by omega) (by omega) dX6_count_11 (by decide) (fun c_11 => ?_) (fun c_11 => ?_)
      · have ek : k = pa 0 := by omega
        rw [ek] at hc1
        refine lv_iload_n hx hb dX6_count_37 rfl (lv_at hl 1 rfl) ?_
        rcases (show w = 0 ∨ w = 1 ∨ w = 2 ∨ w = 3 ∨ w = 4 ∨ (w < 0 ∨ 4 < w) by omega) with c_38 | c_38 | c_38 | c_38 | c_38 | c_38
        · refine zv_tableIn (k := 0) (tgt := 72) hx hb (by omega) c_38 (by omega) dX6_count_38 rfl (by decide) ?_
          refine lv_aload_n hx hb dX6_count_72 rfl (lv_at hl 0 rfl) ?_
          refine va_get (D := (dC, dI)) (ci := 5) (v := .ref a2) (C := RX6) (T := TX6) (N := 28) hx hb hts in_X6 hown hK hP 0 rfl rfl 3 (by decide) w_0 (fun _ h9 => h9) rfl dX6_count_73 ?_
          refine zv_iconst hx hb dX6_count_76 ?_
          refine zv_iald hx hb hK hP 2 0 rfl rfl (by omega) dX6_count_77 ?_
          rw [← hQQ]
          exact zr_iret hx hb hr hlocks (congrArg zI (show pa 0 = q_count (pa 0) ms tmy (nw 20) ty w from by unfold q_count; (repeat' split) <;> first | rfl | omega)) dX6_count_78
        · refine zv_tableIn (k := 1) (tgt := 79) hx hb (by omega) c_38 (by omega) dX6_count_38 rfl (by decide) ?_
          refine lv_iload_n hx hb dX6_count_79 rfl (lv_at hl 2 rfl) ?_
          rw [← hQQ]
          exact zr_iret hx hb hr hlocks (congrArg zI (show ld = q_count (pa 0) ms tmy (nw 20) ty w from by unfold q_count; (repeat' split) <;> first | rfl | omega)) dX6_count_80
        · refine zv_tableIn (k := 2) (tgt := 81) hx hb (by omega) c_38 (by omega) dX6_count_38 rfl (by decide) ?_
          refine lv_aload_n hx hb dX6_count_81 rfl (lv_at hl 0 rfl) ?_
          refine va_get (D := (dC, dI)) (ci := 5) (v := .int (zI tmy)) (C := RX6) (T := TX6) (N := 28) hx hb hts in_X6 hown hK hP 0 rfl rfl 26 (by decide) w_1 (fun _ h9 => h9) rfl dX6_count_82 ?_
          rw [← hQQ]
          exact zr_iret hx hb hr hlocks (congrArg zI (show tmy = q_count (pa 0) ms tmy (nw 20) ty w from by unfold q_count; (repeat' split) <;> first | rfl | omega)) dX6_count_85
        · refine zv_tableIn (k := 3) (tgt := 86) hx hb (by omega) c_38 (by omega) dX6_count_38 rfl (by decide) ?_
          refine lv_aload_n hx hb dX6_count_86 rfl (lv_at hl 0 rfl) ?_
          refine va_get (D := (dC, dI)) (ci := 5) (v := .ref a7) (C := RX6) (T := TX6) (N := 28) hx hb hts in_X6 hown hK hP 0 rfl rfl 13 (by decide) w_2 (fun _ h9 => h9) rfl dX6_count_87 ?_
          refine zv_bipush hx hb dX6_count_90 (by decide +kernel) ?_
          refine zv_iald hx hb hK hP 7 0 rfl rfl (by omega) dX6_count_92 ?_
          rw [← hQQ]
          exact zr_iret hx hb hr hlocks (congrArg zI (show nw 20 = q_count (pa 0) ms tmy (nw 20) ty w from by unfold q_count; (repeat' split) <;> first | rfl | omega)) dX6_count_93
        · refine zv_tableIn (k := 4) (tgt := 94) hx hb (by omega) c_38 (by omega) dX6_count_38 rfl (by decide) ?_
          refine lv_aload_n hx hb dX6_count_94 rfl (lv_at hl 0 rfl) ?_
          refine va_get (D := (dC, dI)) (ci := 5) (v := .int (zI ty)) (C := RX6) (T := TX6) (N := 28) hx hb hts in_X6 hown hK hP 0 rfl rfl 2 (by decide) w_3 (fun _ h9 => h9) rfl dX6_count_95 ?_
          rw [← hQQ]
          exact zr_iret hx hb hr hlocks (congrArg zI (show ty = q_count (pa 0) ms tmy (nw 20) ty w from by unfold q_count; (repeat' split) <;> first | rfl | omega)) dX6_count_98
        · refine zv_tableOut (tgt := 99) hx hb (by omega) c_38 dX6_count_38 (by decide) ?_
          refine zv_iconst hx hb dX6_count_99 ?_
          rw [← hQQ]
          exact zr_iret hx hb hr hlocks (congrArg zI (show (-1) = q_count (pa 0) ms tmy (nw 20) ty w from by unfold q_count; (repeat' split) <;> first | rfl | omega)) dX6_count_100
      · have z1 := (hh.2 k (by omega) (by omega)).1
        refine lv_iload_n hx hb dX6_count_14 rfl (lv_at hl 2 rfl) ?_
        refine lv_aload_n hx hb dX6_count_15 rfl (lv_at hl 0 rfl) ?_
        refine va_get (D := (dC, dI)) (ci := 5) (v := .ref a3) (C := RX6) (T := TX6) (N := 28) hx hb hts in_X6 hown hK hP 0 rfl rfl 4 (by decide) w_4 (fun _ h9 => h9) rfl dX6_count_16 ?_
        refine lv_iload_n hx hb dX6_count_19 rfl (lv_at hl 3 rfl) ?_
        refine zv_iald hx hb hK hP 3 0 rfl rfl (by omega) dX6_count_20 ?_
        refine zv_if_ne (tgt := 28) hx hb (by omega) dX6_count_21 (by decide) (fun c_21 => ?_) (fun c_21 => ?_)
        · refine zv_iconst hx hb dX6_count_28 ?_
          refine zv_iadd hx hb dX6_count_29 ?_
          refine lv_istore_n (lv' := [(2, .int (zI (ld + 0))), (0, .ref a0), (1, .int (zI w)), (3, .int (zI k))]) hx hb dX6_count_30 rfl hl (by decide) rfl (fun ls hl => ?_)
          refine zv_iinc (k := 3) (a := k) (n := 1) (lv' := [(3, .int (zI (k + 1))), (2, .int (zI (ld + 0))), (0, .ref a0), (1, .int (zI w))]) hx hb dX6_count_31 hl rfl (by decide) rfl (fun ls hl => ?_)
          refine lv_goto (tgt := 4) hx hb dX6_count_34 (by decide) ?_
          exact ih4 (ld + 0) (k + 1) (by omega) (by omega) (by rw [sF_s _ (by omega), ← hc1]; unfold gL; split <;> omega) _ (lv_sub hl [2, 3, 1, 0] rfl)
        · refine zv_iconst hx hb dX6_count_24 ?_
          refine lv_goto (tgt := 29) hx hb dX6_count_25 (by decide) ?_
          refine zv_iadd hx hb dX6_count_29 ?_
          refine lv_istore_n (lv' := [(2, .int (zI (ld + 1))), (0, .ref a0), (1, .int (zI w)), (3, .int (zI k))]) hx hb dX6_count_30 rfl hl (by decide) rfl (fun ls hl => ?_)
          refine zv_iinc (k := 3) (a := k) (n := 1) (lv' := [(3, .int (zI (k + 1))), (2, .int (zI (ld + 1))), (0, .ref a0), (1, .int (zI w))]) hx hb dX6_count_31 hl rfl (by decide) rfl (fun ls hl => ?_)
          refine lv_goto (tgt := 4) hx hb dX6_count_34 (by decide) ?_
          exact ih4 (ld + 1) (k + 1) (by omega) (by omega) (by rw [sF_s _ (by omega), ← hc1]; unfold gL; split <;> omega) _ (lv_sub hl [2, 3, 1, 0] rfl)
  refine zv_iconst hx hb dX6_count_0 ?_
  refine lv_istore_n (lv' := [(2, .int (zI 0)), (0, .ref a0), (1, .int (zI w))]) hx hb dX6_count_1 rfl hl (by decide) rfl (fun ls hl => ?_)
  refine zv_iconst hx hb dX6_count_2 ?_
  refine lv_istore_n (lv' := [(3, .int (zI 0)), (2, .int (zI 0)), (0, .ref a0), (1, .int (zI w))]) hx hb dX6_count_3 rfl hl (by decide) rfl (fun ls hl => ?_)
  exact cut4 _ 0 0 (Nat.lt_succ_self _) (by omega) (by rfl) _ (lv_sub hl [2, 3, 1, 0] rfl)
set_option maxHeartbeats 4000000 in
set_option maxRecDepth 100000 in
theorem c_X6_trace (l : Launch) (dC : Nat → ClassId) (dI : Nat → Nat → Nat) (cI cB cZ : ClassId) (a0 : Nat) (a1 : Nat) (a2 : Nat) (a3 : Nat) (a4 : Nat) (a5 : Nat) (a6 : Nat) (a7 : Nat) (a8 : Nat) (a9 : Nat) (a10 : Nat) (a11 : Nat) (a12 : Nat) (a13 : Nat) (a14 : Nat) (a15 : Nat) (a16 : Nat) (a17 : Nat) (mtr : Int64) (tx : Int → Int) (ty : Int) (pa : Int → Int) (ms : Int → Int) (ml : Int → Int) (mr : Int → Int) (mt : Int → Int) (mat : Int) (mst : Int) (mso : Int) (mva : Int) (mfa : Int) (nw : Int → Int) (ik : Int → Int) (sd : Int → Int) (mlo : Int) (ra : Int → Int) (rm : Int) (bg : Int → Int) (to : Int → Int) (tm : Int) (cd : Int → Int) (fi : Int → Int) (tsz : Int → Int) (tcm : Int → Int) (tmy : Int) (mg : Int → Int)  : MetW (S := Unit) l yX6_trace wsX6_trace ({ frames := 0, cells := 0, slots := 0, locals := 0 }) (dC, dI) vwCl (zT cI cB cZ) zN [(a0, .inr (5, [.long mtr, .ref a1, .int (zI ty), .ref a2, .ref a3, .ref a4, .ref a5, .ref a6, .int (zI mat), .int (zI mst), .int (zI mso), .int (zI mva), .int (zI mfa), .ref a7, .ref a8, .ref a9, .int (zI mlo), .ref a10, .int (zI rm), .ref a11, .ref a12, .int (zI tm), .ref a13, .ref a14, .ref a15, .ref a16, .int (zI tmy), .ref a17])), (a1, .inl (cB, 200, .inl (zA tx))), (a2, .inl (cI, 2, .inl (zA pa))), (a3, .inl (cI, 18, .inl (zA ms))), (a4, .inl (cI, 18, .inl (zA ml))), (a5, .inl (cI, 18, .inl (zA mr))), (a6, .inl (cI, 18, .inl (zA mt))), (a7, .inl (cI, 1143, .inl (zA nw))), (a8, .inl (cZ, 2, .inl (zA ik))), (a9, .inl (cI, 9, .inl (zA sd))), (a10, .inl (cI, 9, .inl (zA ra))), (a11, .inl (cI, 9, .inl (zA bg))), (a12, .inl (cI, 4, .inl (zA to))), (a13, .inl (cI, 200, .inl (zA cd))), (a14, .inl (cI, 9, .inl (zA fi))), (a15, .inl (cI, 9, .inl (zA tsz))), (a16, .inl (cI, 9, .inl (zA tcm))), (a17, .inl (cI, 10, .inl (zA mg)))] [.ref a0] (fun u => some (.long mtr)) (fun u => [(a0, .inr (5, [.long mtr, .ref a1, .int (zI ty), .ref a2, .ref a3, .ref a4, .ref a5, .ref a6, .int (zI mat), .int (zI mst), .int (zI mso), .int (zI mva), .int (zI mfa), .ref a7, .ref a8, .ref a9, .int (zI mlo), .ref a10, .int (zI rm), .ref a11, .ref a12, .int (zI tm), .ref a13, .ref a14, .ref a15, .ref a16, .int (zI tmy), .ref a17])), (a1, .inl (cB, 200, .inl (zA tx))), (a2, .inl (cI, 2, .inl (zA pa))), (a3, .inl (cI, 18, .inl (zA ms))), (a4, .inl (cI, 18, .inl (zA ml))), (a5, .inl (cI, 18, .inl (zA mr))), (a6, .inl (cI, 18, .inl (zA mt))), (a7, .inl (cI, 1143, .inl (zA nw))), (a8, .inl (cZ, 2, .inl (zA ik))), (a9, .inl (cI, 9, .inl (zA sd))), (a10, .inl (cI, 9, .inl (zA ra))), (a11, .inl (cI, 9, .inl (zA bg))), (a12, .inl (cI, 4, .inl (zA to))), (a13, .inl (cI, 200, .inl (zA cd))), (a14, .inl (cI, 9, .inl (zA fi))), (a15, .inl (cI, 9, .inl (zA tsz))), (a16, .inl (cI, 9, .inl (zA tcm))), (a17, .inl (cI, 10, .inl (zA mg)))]) (fun u => True) := by
  refine MetW.intro (cc := cX6_trace) (maxL := 1) (ret := (some .long)) (by decide) rfl (Nat.le_of_ble_eq_true rfl) ?_
  intro p e s m args below meth c A hx hb hr hlocks hml hts hown hP hK hD hS hA hE ls hl
  have hown : s.vm.findClass RX6 = some m.cls := hown
  have hl : lv_has ls 1 [(0, .ref a0)] := hl
  generalize hRM : ({ frames := 0, cells := 0, slots := 0, locals := 0 } : Room) = RM
  generalize hQQ : MQ below (QW (S := Unit) (dC, dI) vwCl A (fun u => some (.long mtr)) (fun u => [(a0, .inr (5, [.long mtr, .ref a1, .int (zI ty), .ref a2, .ref a3, .ref a4, .ref a5, .ref a6, .int (zI mat), .int (zI mst), .int (zI mso), .int (zI mva), .int (zI mfa), .ref a7, .ref a8, .ref a9, .int (zI mlo), .ref a10, .int (zI rm), .ref a11, .ref a12, .int (zI tm), .ref a13, .ref a14, .ref a15, .ref a16, .int (zI tmy), .ref a17])), (a1, .inl (cB, 200, .inl (zA tx))), (a2, .inl (cI, 2, .inl (zA pa))), (a3, .inl (cI, 18, .inl (zA ms))), (a4, .inl (cI, 18, .inl (zA ml))), (a5, .inl (cI, 18, .inl (zA mr))), (a6, .inl (cI, 18, .inl (zA mt))), (a7, .inl (cI, 1143, .inl (zA nw))), (a8, .inl (cZ, 2, .inl (zA ik))), (a9, .inl (cI, 9, .inl (zA sd))), (a10, .inl (cI, 9, .inl (zA ra))), (a11, .inl (cI, 9, .inl (zA bg))), (a12, .inl (cI, 4, .inl (zA to))), (a13, .inl (cI, 200, .inl (zA cd))), (a14, .inl (cI, 9, .inl (zA fi))), (a15, .inl (cI, 9, .inl (zA tsz))), (a16, .inl (cI, 9, .inl (zA tcm))), (a17, .inl (cI, 10, .inl (zA mg)))]) (fun u => True)) args s 0 0 A = QQ
  have in_X6 : ∀ w ∈ wsX60, w ∈ wsX6_trace := by decide +kernel
  have w_0 := hts (.fieldLink RX6 166 "WallMarblesModel" "trace" "J") (by decide +kernel)
  refine lv_aload_n hx hb dX6_trace_0 rfl (lv_at hl 0 rfl) ?_
  refine va_get (D := (dC, dI)) (ci := 5) (v := .long mtr) (C := RX6) (T := TX6) (N := 28) hx hb hts in_X6 hown hK hP 0 rfl rfl 0 (by decide) w_0 (fun _ h9 => h9) rfl dX6_trace_1 ?_
  rw [← hQQ]
  exact zw_lret hx hb hr hlocks () rfl trivial hP hS dX6_trace_4
set_option maxHeartbeats 4000000 in
set_option maxRecDepth 100000 in
theorem c_X6_clear (l : Launch) (dC : Nat → ClassId) (dI : Nat → Nat → Nat) (cI cB cZ : ClassId) (a0 : Nat) (a1 : Nat) (a2 : Nat) (a3 : Nat) (a4 : Nat) (a5 : Nat) (a6 : Nat) (a7 : Nat) (a8 : Nat) (a9 : Nat) (a10 : Nat) (a11 : Nat) (a12 : Nat) (a13 : Nat) (a14 : Nat) (a15 : Nat) (a16 : Nat) (a17 : Nat) (mtr : Int64) (tx : Int → Int) (ty : Int) (pa : Int → Int) (ms : Int → Int) (ml : Int → Int) (mr : Int → Int) (mt : Int → Int) (mat : Int) (mst : Int) (mso : Int) (mva : Int) (mfa : Int) (nw : Int → Int) (ik : Int → Int) (sd : Int → Int) (mlo : Int) (ra : Int → Int) (rm : Int) (bg : Int → Int) (to : Int → Int) (tm : Int) (cd : Int → Int) (fi : Int → Int) (tsz : Int → Int) (tcm : Int → Int) (tmy : Int) (mg : Int → Int)  : MetW (S := Unit) l yX6_clear wsX6_clear ({ frames := 0, cells := 0, slots := 0, locals := 0 }) (dC, dI) vwCl (zT cI cB cZ) zN [(a0, .inr (5, [.long mtr, .ref a1, .int (zI ty), .ref a2, .ref a3, .ref a4, .ref a5, .ref a6, .int (zI mat), .int (zI mst), .int (zI mso), .int (zI mva), .int (zI mfa), .ref a7, .ref a8, .ref a9, .int (zI mlo), .ref a10, .int (zI rm), .ref a11, .ref a12, .int (zI tm), .ref a13, .ref a14, .ref a15, .ref a16, .int (zI tmy), .ref a17])), (a1, .inl (cB, 200, .inl (zA tx))), (a2, .inl (cI, 2, .inl (zA pa))), (a3, .inl (cI, 18, .inl (zA ms))), (a4, .inl (cI, 18, .inl (zA ml))), (a5, .inl (cI, 18, .inl (zA mr))), (a6, .inl (cI, 18, .inl (zA mt))), (a7, .inl (cI, 1143, .inl (zA nw))), (a8, .inl (cZ, 2, .inl (zA ik))), (a9, .inl (cI, 9, .inl (zA sd))), (a10, .inl (cI, 9, .inl (zA ra))), (a11, .inl (cI, 9, .inl (zA bg))), (a12, .inl (cI, 4, .inl (zA to))), (a13, .inl (cI, 200, .inl (zA cd))), (a14, .inl (cI, 9, .inl (zA fi))), (a15, .inl (cI, 9, .inl (zA tsz))), (a16, .inl (cI, 9, .inl (zA tcm))), (a17, .inl (cI, 10, .inl (zA mg)))] [.ref a0] (fun u => some (.int (zI ty))) (fun u => [(a0, .inr (5, [.long mtr, .ref a1, .int (zI 0), .ref a2, .ref a3, .ref a4, .ref a5, .ref a6, .int (zI mat), .int (zI mst), .int (zI mso), .int (zI mva), .int (zI mfa), .ref a7, .ref a8, .ref a9, .int (zI mlo), .ref a10, .int (zI rm), .ref a11, .ref a12, .int (zI tm), .ref a13, .ref a14, .ref a15, .ref a16, .int (zI tmy), .ref a17])), (a1, .inl (cB, 200, .inl (zA tx))), (a2, .inl (cI, 2, .inl (zA pa))), (a3, .inl (cI, 18, .inl (zA ms))), (a4, .inl (cI, 18, .inl (zA ml))), (a5, .inl (cI, 18, .inl (zA mr))), (a6, .inl (cI, 18, .inl (zA mt))), (a7, .inl (cI, 1143, .inl (zA nw))), (a8, .inl (cZ, 2, .inl (zA ik))), (a9, .inl (cI, 9, .inl (zA sd))), (a10, .inl (cI, 9, .inl (zA ra))), (a11, .inl (cI, 9, .inl (zA bg))), (a12, .inl (cI, 4, .inl (zA to))), (a13, .inl (cI, 200, .inl (zA cd))), (a14, .inl (cI, 9, .inl (zA fi))), (a15, .inl (cI, 9, .inl (zA tsz))), (a16, .inl (cI, 9, .inl (zA tcm))), (a17, .inl (cI, 10, .inl (zA mg)))]) (fun u => True) := by
  refine MetW.intro (cc := cX6_clear) (maxL := 2) (ret := (some .int)) (by decide) rfl (Nat.le_of_ble_eq_true rfl) ?_
  intro p e s m args below meth c A hx hb hr hlocks hml hts hown hP hK hD hS hA hE ls hl
  have hown : s.vm.findClass RX6 = some m.cls := hown
  have hl : lv_has ls 2 [(0, .ref a0)] := hl
  generalize hRM : ({ frames := 0, cells := 0, slots := 0, locals := 0 } : Room) = RM
  generalize hQQ : MQ below (QW (S := Unit) (dC, dI) vwCl A (fun u => some (.int (zI ty))) (fun u => [(a0, .inr (5, [.long mtr, .ref a1, .int (zI 0), .ref a2, .ref a3, .ref a4, .ref a5, .ref a6, .int (zI mat), .int (zI mst), .int (zI mso), .int (zI mva), .int (zI mfa), .ref a7, .ref a8, .ref a9, .int (zI mlo), .ref a10, .int (zI rm), .ref a11, .ref a12, .int (zI tm), .ref a13, .ref a14, .ref a15, .ref a16, .int (zI tmy), .ref a17])), (a1, .inl (cB, 200, .inl (zA tx))), (a2, .inl (cI, 2, .inl (zA pa))), (a3, .inl (cI, 18, .inl (zA ms))), (a4, .inl (cI, 18, .inl (zA ml))), (a5, .inl (cI, 18, .inl (zA mr))), (a6, .inl (cI, 18, .inl (zA mt))), (a7, .inl (cI, 1143, .inl (zA nw))), (a8, .inl (cZ, 2, .inl (zA ik))), (a9, .inl (cI, 9, .inl (zA sd))), (a10, .inl (cI, 9, .inl (zA ra))), (a11, .inl (cI, 9, .inl (zA bg))), (a12, .inl (cI, 4, .inl (zA to))), (a13, .inl (cI, 200, .inl (zA cd))), (a14, .inl (cI, 9, .inl (zA fi))), (a15, .inl (cI, 9, .inl (zA tsz))), (a16, .inl (cI, 9, .inl (zA tcm))), (a17, .inl (cI, 10, .inl (zA mg)))]) (fun u => True)) args s 0 0 A = QQ
  have in_X6 : ∀ w ∈ wsX60, w ∈ wsX6_clear := by decide +kernel
  have w_0 := hts (.fieldLink RX6 67 "WallMarblesModel" "typed" "I") (by decide +kernel)
  refine lv_aload_n hx hb dX6_clear_0 rfl (lv_at hl 0 rfl) ?_
  refine va_get (D := (dC, dI)) (ci := 5) (v := .int (zI ty)) (C := RX6) (T := TX6) (N := 28) hx hb hts in_X6 hown hK hP 0 rfl rfl 2 (by decide) w_0 (fun _ h9 => h9) rfl dX6_clear_1 ?_
  refine lv_istore_n (lv' := [(1, .int (zI ty)), (0, .ref a0)]) hx hb dX6_clear_4 rfl hl (by decide) rfl (fun ls hl => ?_)
  refine lv_aload_n hx hb dX6_clear_5 rfl (lv_at hl 1 rfl) ?_
  refine zv_iconst hx hb dX6_clear_6 ?_
  refine va_put (D := (dC, dI)) (ci := 5) (v := .int (zI 0)) (ty := .int) (C := RX6) (T := TX6) (N := 28) hx hb hts in_X6 tyX6 tyX6_ok nmX6 hown hK hP hD hS 0 rfl rfl 2 (by decide) w_0 (fun _ h9 => h9) rfl (by decide +kernel) rfl rfl (Nat.le_of_ble_eq_true rfl) dX6_clear_7 (fun H locs hP hD hS => ?_)
  have hP : va_P (dC, dI) vwCl [(a0, .inr (5, [.long mtr, .ref a1, .int (zI 0), .ref a2, .ref a3, .ref a4, .ref a5, .ref a6, .int (zI mat), .int (zI mst), .int (zI mso), .int (zI mva), .int (zI mfa), .ref a7, .ref a8, .ref a9, .int (zI mlo), .ref a10, .int (zI rm), .ref a11, .ref a12, .int (zI tm), .ref a13, .ref a14, .ref a15, .ref a16, .int (zI tmy), .ref a17])), (a1, .inl (cB, 200, .inl (zA tx))), (a2, .inl (cI, 2, .inl (zA pa))), (a3, .inl (cI, 18, .inl (zA ms))), (a4, .inl (cI, 18, .inl (zA ml))), (a5, .inl (cI, 18, .inl (zA mr))), (a6, .inl (cI, 18, .inl (zA mt))), (a7, .inl (cI, 1143, .inl (zA nw))), (a8, .inl (cZ, 2, .inl (zA ik))), (a9, .inl (cI, 9, .inl (zA sd))), (a10, .inl (cI, 9, .inl (zA ra))), (a11, .inl (cI, 9, .inl (zA bg))), (a12, .inl (cI, 4, .inl (zA to))), (a13, .inl (cI, 200, .inl (zA cd))), (a14, .inl (cI, 9, .inl (zA fi))), (a15, .inl (cI, 9, .inl (zA tsz))), (a16, .inl (cI, 9, .inl (zA tcm))), (a17, .inl (cI, 10, .inl (zA mg)))] H := hP
  have hD : va_D A [(a0, .inr (5, [.long mtr, .ref a1, .int (zI 0), .ref a2, .ref a3, .ref a4, .ref a5, .ref a6, .int (zI mat), .int (zI mst), .int (zI mso), .int (zI mva), .int (zI mfa), .ref a7, .ref a8, .ref a9, .int (zI mlo), .ref a10, .int (zI rm), .ref a11, .ref a12, .int (zI tm), .ref a13, .ref a14, .ref a15, .ref a16, .int (zI tmy), .ref a17])), (a1, .inl (cB, 200, .inl (zA tx))), (a2, .inl (cI, 2, .inl (zA pa))), (a3, .inl (cI, 18, .inl (zA ms))), (a4, .inl (cI, 18, .inl (zA ml))), (a5, .inl (cI, 18, .inl (zA mr))), (a6, .inl (cI, 18, .inl (zA mt))), (a7, .inl (cI, 1143, .inl (zA nw))), (a8, .inl (cZ, 2, .inl (zA ik))), (a9, .inl (cI, 9, .inl (zA sd))), (a10, .inl (cI, 9, .inl (zA ra))), (a11, .inl (cI, 9, .inl (zA bg))), (a12, .inl (cI, 4, .inl (zA to))), (a13, .inl (cI, 200, .inl (zA cd))), (a14, .inl (cI, 9, .inl (zA fi))), (a15, .inl (cI, 9, .inl (zA tsz))), (a16, .inl (cI, 9, .inl (zA tcm))), (a17, .inl (cI, 10, .inl (zA mg)))] := hD
  refine lv_iload_n hx hb dX6_clear_10 rfl (lv_at hl 0 rfl) ?_
  rw [← hQQ]
  exact zw_iret hx hb hr hlocks () rfl trivial hP hS dX6_clear_11
set_option maxHeartbeats 4000000 in
set_option maxRecDepth 100000 in
theorem c_X6_markN (l : Launch) (dC : Nat → ClassId) (dI : Nat → Nat → Nat) (cI cB cZ : ClassId) (a0 : Nat) (a1 : Nat) (a2 : Nat) (a3 : Nat) (a4 : Nat) (a5 : Nat) (a6 : Nat) (a7 : Nat) (a8 : Nat) (a9 : Nat) (a10 : Nat) (a11 : Nat) (a12 : Nat) (a13 : Nat) (a14 : Nat) (a15 : Nat) (a16 : Nat) (a17 : Nat) (mtr : Int64) (tx : Int → Int) (ty : Int) (pa : Int → Int) (ms : Int → Int) (ml : Int → Int) (mr : Int → Int) (mt : Int → Int) (mat : Int) (mst : Int) (mso : Int) (mva : Int) (mfa : Int) (nw : Int → Int) (ik : Int → Int) (sd : Int → Int) (mlo : Int) (ra : Int → Int) (rm : Int) (bg : Int → Int) (to : Int → Int) (tm : Int) (cd : Int → Int) (fi : Int → Int) (tsz : Int → Int) (tcm : Int → Int) (tmy : Int) (mg : Int → Int) (kd : Int) (k : Int) (hh : hOk (pa 0) ms ml mr mt) (hk : -2147483648 ≤ k ∧ k ≤ 2147483647) (hkd : -2147483648 ≤ kd ∧ kd ≤ 2147483647) (hno : ¬ (0 ≤ kd ∧ kd ≤ 5 ∧ 0 ≤ k ∧ k < pa 0)) : MetR l yX6_mark wsX6_mark ({ frames := 2, cells := 0, slots := 0, locals := 43 }) (dC, dI) vwCl (zT cI cB cZ) zN [(a0, .inr (5, [.long mtr, .ref a1, .int (zI ty), .ref a2, .ref a3, .ref a4, .ref a5, .ref a6, .int (zI mat), .int (zI mst), .int (zI mso), .int (zI mva), .int (zI mfa), .ref a7, .ref a8, .ref a9, .int (zI mlo), .ref a10, .int (zI rm), .ref a11, .ref a12, .int (zI tm), .ref a13, .ref a14, .ref a15, .ref a16, .int (zI tmy), .ref a17])), (a1, .inl (cB, 200, .inl (zA tx))), (a2, .inl (cI, 2, .inl (zA pa))), (a3, .inl (cI, 18, .inl (zA ms))), (a4, .inl (cI, 18, .inl (zA ml))), (a5, .inl (cI, 18, .inl (zA mr))), (a6, .inl (cI, 18, .inl (zA mt))), (a7, .inl (cI, 1143, .inl (zA nw))), (a8, .inl (cZ, 2, .inl (zA ik))), (a9, .inl (cI, 9, .inl (zA sd))), (a10, .inl (cI, 9, .inl (zA ra))), (a11, .inl (cI, 9, .inl (zA bg))), (a12, .inl (cI, 4, .inl (zA to))), (a13, .inl (cI, 200, .inl (zA cd))), (a14, .inl (cI, 9, .inl (zA fi))), (a15, .inl (cI, 9, .inl (zA tsz))), (a16, .inl (cI, 9, .inl (zA tcm))), (a17, .inl (cI, 10, .inl (zA mg)))] [.ref a0, .int (zI kd), .int (zI k)] (zI (-1000000)) := by
  refine MetR.intro (cc := cX6_mark) (maxL := 3) (ret := (some .int)) (by decide) rfl (Nat.le_of_ble_eq_true rfl) ?_
  intro p e s m args below meth c hx hb hr hlocks hml hts hown hP hK hE ls hl
  have hown : s.vm.findClass RX6 = some m.cls := hown
  have hl : lv_has ls 3 [(0, .ref a0), (1, .int (zI kd)), (2, .int (zI k))] := hl
  generalize hRM : ({ frames := 2, cells := 0, slots := 0, locals := 43 } : Room) = RM
  generalize hQQ : MQ below (vp_Si (fun r => r = zI (-1000000))) args s 0 0 (fun _ => False) = QQ
  have w_0 := hts (.constant RX6 165 (-1000000)) (by decide +kernel)
  have hn := hh.1
  refine lv_iload_n hx hb dX6_mark_0 rfl (lv_at hl 1 rfl) ?_
  refine zv_iconst hx hb dX6_mark_1 ?_
  refine zv_iconst hx hb dX6_mark_2 ?_
  refine zv_callRS (As := [.int (zI kd), .int (zI 0), .int (zI 5)]) (rest := []) ⟨hx, hb, hml, hown, hts⟩ (c_X6_in l dC dI cI cB cZ kd 0 5 (by omega) (by omega) (by omega)) (va_cwS 3 hts gX6_mark_X6_in rfl rfl rfl (by decide +kernel) ⟨by rw [← hRM]; first | decide | (dsimp only; omega), by rw [← hRM]; first | decide | (dsimp only; omega)⟩) hP hK [] rfl [0, 1, 2] rfl zN_bl (zN_go hE) rfl hl.1 rfl (Nat.le_of_ble_eq_true rfl) dX6_mark_3 ⟨Nat.zero_le _, Nat.zero_le _⟩ ?_
  refine zv_ifeq_b (tgt := 17) hx hb dX6_mark_6 (by decide) (fun c_6 => ?_) (fun c_6 => ?_)
  · refine zv_ldc (n := (-1000000)) hx hb hown w_0 (by decide +kernel) dX6_mark_17 ?_
    rw [← hQQ]
    exact zr_iret hx hb hr hlocks (congrArg zI (show (-1000000) = -1000000 from by first | rfl | omega | exact (bZ_t (by omega)).symm | exact (bZ_f (by omega)).symm)) dX6_mark_19
  · refine lv_aload_n hx hb dX6_mark_9 rfl (lv_at hl 0 rfl) ?_
    refine lv_iload_n hx hb dX6_mark_10 rfl (lv_at hl 2 rfl) ?_
    refine zv_callRVa (As := [.int (zI k)]) (rest := []) ⟨hx, hb, hml, hown, hts⟩ (c_X6_isPart l dC dI cI cB cZ a0 a1 a2 a3 a4 a5 a6 a7 a8 a9 a10 a11 a12 a13 a14 a15 a16 a17 mtr tx ty pa ms ml mr mt mat mst mso mva mfa nw ik sd mlo ra rm bg to tm cd fi tsz tcm tmy mg k (by omega) (by omega)) (cwV 1 hts gX6_mark_X6_isPart rfl rfl rfl (by decide +kernel) ⟨by rw [← hRM]; first | decide | (dsimp only; omega), by rw [← hRM]; first | decide | (dsimp only; omega)⟩) hP hK zN_bl (zN_go hE) (q0 := 0) rfl rfl rfl rfl hl.1 rfl (Nat.le_of_ble_eq_true rfl) dX6_mark_11 ⟨Nat.zero_le _, Nat.zero_le _⟩ ?_
    refine zv_ifne_b (tgt := 20) hx hb dX6_mark_14 (by decide) (fun c_14 => ?_) (fun c_14 => ?_)
    · exfalso; omega
    · refine zv_ldc (n := (-1000000)) hx hb hown w_0 (by decide +kernel) dX6_mark_17 ?_
      rw [← hQQ]
      exact zr_iret hx hb hr hlocks (congrArg zI (show (-1000000) = -1000000 from by first | rfl | omega | exact (bZ_t (by omega)).symm | exact (bZ_f (by omega)).symm)) dX6_mark_19
set_option maxHeartbeats 4000000 in
set_option maxRecDepth 100000 in
theorem c_X6_markY (l : Launch) (dC : Nat → ClassId) (dI : Nat → Nat → Nat) (cI cB cZ : ClassId) (a0 : Nat) (a1 : Nat) (a2 : Nat) (a3 : Nat) (a4 : Nat) (a5 : Nat) (a6 : Nat) (a7 : Nat) (a8 : Nat) (a9 : Nat) (a10 : Nat) (a11 : Nat) (a12 : Nat) (a13 : Nat) (a14 : Nat) (a15 : Nat) (a16 : Nat) (a17 : Nat) (mtr : Int64) (tx : Int → Int) (ty : Int) (pa : Int → Int) (ms : Int → Int) (ml : Int → Int) (mr : Int → Int) (mt : Int → Int) (mat : Int) (mst : Int) (mso : Int) (mva : Int) (mfa : Int) (nw : Int → Int) (ik : Int → Int) (sd : Int → Int) (mlo : Int) (ra : Int → Int) (rm : Int) (bg : Int → Int) (to : Int → Int) (tm : Int) (cd : Int → Int) (fi : Int → Int) (tsz : Int → Int) (tcm : Int → Int) (tmy : Int) (mg : Int → Int) (kd : Int) (k : Int) (hh : hOk (pa 0) ms ml mr mt) (hk : -2147483648 ≤ k ∧ k ≤ 2147483647) (hkd : -2147483648 ≤ kd ∧ kd ≤ 2147483647) (hok : 0 ≤ kd ∧ kd ≤ 5 ∧ 0 ≤ k ∧ k < pa 0) : MetW (S := (Int64)) l yX6_mark wsX6_mark ({ frames := 2, cells := 0, slots := 0, locals := 43 }) (dC, dI) vwCl (zT cI cB cZ) zN [(a0, .inr (5, [.long mtr, .ref a1, .int (zI ty), .ref a2, .ref a3, .ref a4, .ref a5, .ref a6, .int (zI mat), .int (zI mst), .int (zI mso), .int (zI mva), .int (zI mfa), .ref a7, .ref a8, .ref a9, .int (zI mlo), .ref a10, .int (zI rm), .ref a11, .ref a12, .int (zI tm), .ref a13, .ref a14, .ref a15, .ref a16, .int (zI tmy), .ref a17])), (a1, .inl (cB, 200, .inl (zA tx))), (a2, .inl (cI, 2, .inl (zA pa))), (a3, .inl (cI, 18, .inl (zA ms))), (a4, .inl (cI, 18, .inl (zA ml))), (a5, .inl (cI, 18, .inl (zA mr))), (a6, .inl (cI, 18, .inl (zA mt))), (a7, .inl (cI, 1143, .inl (zA nw))), (a8, .inl (cZ, 2, .inl (zA ik))), (a9, .inl (cI, 9, .inl (zA sd))), (a10, .inl (cI, 9, .inl (zA ra))), (a11, .inl (cI, 9, .inl (zA bg))), (a12, .inl (cI, 4, .inl (zA to))), (a13, .inl (cI, 200, .inl (zA cd))), (a14, .inl (cI, 9, .inl (zA fi))), (a15, .inl (cI, 9, .inl (zA tsz))), (a16, .inl (cI, 9, .inl (zA tcm))), (a17, .inl (cI, 10, .inl (zA mg)))] [.ref a0, .int (zI kd), .int (zI k)] (fun u => some (.int (zI (q_mark mt nw (fun j => nw (9 + j)) (nw 19) kd k)))) (fun u => [(a0, .inr (5, [.long u, .ref a1, .int (zI ty), .ref a2, .ref a3, .ref a4, .ref a5, .ref a6, .int (zI mat), .int (zI mst), .int (zI mso), .int (zI mva), .int (zI mfa), .ref a7, .ref a8, .ref a9, .int (zI mlo), .ref a10, .int (zI rm), .ref a11, .ref a12, .int (zI tm), .ref a13, .ref a14, .ref a15, .ref a16, .int (zI tmy), .ref a17])), (a1, .inl (cB, 200, .inl (zA tx))), (a2, .inl (cI, 2, .inl (zA pa))), (a3, .inl (cI, 18, .inl (zA ms))), (a4, .inl (cI, 18, .inl (zA ml))), (a5, .inl (cI, 18, .inl (zA mr))), (a6, .inl (cI, 18, .inl (zA mt))), (a7, .inl (cI, 1143, .inl (zA nw))), (a8, .inl (cZ, 2, .inl (zA ik))), (a9, .inl (cI, 9, .inl (zA sd))), (a10, .inl (cI, 9, .inl (zA ra))), (a11, .inl (cI, 9, .inl (zA bg))), (a12, .inl (cI, 4, .inl (zA to))), (a13, .inl (cI, 200, .inl (zA cd))), (a14, .inl (cI, 9, .inl (zA fi))), (a15, .inl (cI, 9, .inl (zA tsz))), (a16, .inl (cI, 9, .inl (zA tcm))), (a17, .inl (cI, 10, .inl (zA mg)))]) (fun u => (u = mtr + mkT kd)) := by
  refine MetW.intro (cc := cX6_mark) (maxL := 3) (ret := (some .int)) (by decide) rfl (Nat.le_of_ble_eq_true rfl) ?_
  intro p e s m args below meth c A hx hb hr hlocks hml hts hown hP hK hD hS hA hE ls hl
  have hown : s.vm.findClass RX6 = some m.cls := hown
  have hl : lv_has ls 3 [(0, .ref a0), (1, .int (zI kd)), (2, .int (zI k))] := hl
  generalize hRM : ({ frames := 2, cells := 0, slots := 0, locals := 43 } : Room) = RM
  generalize hQQ : MQ below (QW (S := (Int64)) (dC, dI) vwCl A (fun u => some (.int (zI (q_mark mt nw (fun j => nw (9 + j)) (nw 19) kd k)))) (fun u => [(a0, .inr (5, [.long u, .ref a1, .int (zI ty), .ref a2, .ref a3, .ref a4, .ref a5, .ref a6, .int (zI mat), .int (zI mst), .int (zI mso), .int (zI mva), .int (zI mfa), .ref a7, .ref a8, .ref a9, .int (zI mlo), .ref a10, .int (zI rm), .ref a11, .ref a12, .int (zI tm), .ref a13, .ref a14, .ref a15, .ref a16, .int (zI tmy), .ref a17])), (a1, .inl (cB, 200, .inl (zA tx))), (a2, .inl (cI, 2, .inl (zA pa))), (a3, .inl (cI, 18, .inl (zA ms))), (a4, .inl (cI, 18, .inl (zA ml))), (a5, .inl (cI, 18, .inl (zA mr))), (a6, .inl (cI, 18, .inl (zA mt))), (a7, .inl (cI, 1143, .inl (zA nw))), (a8, .inl (cZ, 2, .inl (zA ik))), (a9, .inl (cI, 9, .inl (zA sd))), (a10, .inl (cI, 9, .inl (zA ra))), (a11, .inl (cI, 9, .inl (zA bg))), (a12, .inl (cI, 4, .inl (zA to))), (a13, .inl (cI, 200, .inl (zA cd))), (a14, .inl (cI, 9, .inl (zA fi))), (a15, .inl (cI, 9, .inl (zA tsz))), (a16, .inl (cI, 9, .inl (zA tcm))), (a17, .inl (cI, 10, .inl (zA mg)))]) (fun u => (u = mtr + mkT kd))) args s 0 0 A = QQ
  have in_X6 : ∀ w ∈ wsX60, w ∈ wsX6_mark := by decide +kernel
  have w_0 := hts (.fieldLink RX6 166 "WallMarblesModel" "trace" "J") (by decide +kernel)
  have w_1 := hts (.fieldLink RX6 29 "WallMarblesModel" "now" "[I") (by decide +kernel)
  have w_2 := hts (.constantLong RX6 170 (11)) (by decide +kernel)
  have w_3 := hts (.fieldLink RX6 26 "WallMarblesModel" "times" "[I") (by decide +kernel)
  have w_4 := hts (.constantLong RX6 172 (101)) (by decide +kernel)
  have w_5 := hts (.constantLong RX6 174 (1011)) (by decide +kernel)
  have w_6 := hts (.constantLong RX6 176 (10101)) (by decide +kernel)
  have w_7 := hts (.constantLong RX6 178 (100001)) (by decide +kernel)
  have hn := hh.1
  refine lv_iload_n hx hb dX6_mark_0 rfl (lv_at hl 1 rfl) ?_
  refine zv_iconst hx hb dX6_mark_1 ?_
  refine zv_iconst hx hb dX6_mark_2 ?_
  refine zv_callRS (As := [.int (zI kd), .int (zI 0), .int (zI 5)]) (rest := []) ⟨hx, hb, hml, hown, hts⟩ (c_X6_in l dC dI cI cB cZ kd 0 5 (by omega) (by omega) (by omega)) (va_cwS 3 hts gX6_mark_X6_in rfl rfl rfl (by decide +kernel) ⟨by rw [← hRM]; first | decide | (dsimp only; omega), by rw [← hRM]; first | decide | (dsimp only; omega)⟩) hP hK [] rfl [0, 1, 2] rfl zN_bl (zN_go hE) rfl hl.1 rfl (Nat.le_of_ble_eq_true rfl) dX6_mark_3 ⟨Nat.zero_le _, Nat.zero_le _⟩ ?_
  refine zv_ifeq_b (tgt := 17) hx hb dX6_mark_6 (by decide) (fun c_6 => ?_) (fun c_6 => ?_)
  · exfalso; omega
  · refine lv_aload_n hx hb dX6_mark_9 rfl (lv_at hl 0 rfl) ?_
    refine lv_iload_n hx hb dX6_mark_10 rfl (lv_at hl 2 rfl) ?_
    refine zv_callRVa (As := [.int (zI k)]) (rest := []) ⟨hx, hb, hml, hown, hts⟩ (c_X6_isPart l dC dI cI cB cZ a0 a1 a2 a3 a4 a5 a6 a7 a8 a9 a10 a11 a12 a13 a14 a15 a16 a17 mtr tx ty pa ms ml mr mt mat mst mso mva mfa nw ik sd mlo ra rm bg to tm cd fi tsz tcm tmy mg k (by omega) (by omega)) (cwV 1 hts gX6_mark_X6_isPart rfl rfl rfl (by decide +kernel) ⟨by rw [← hRM]; first | decide | (dsimp only; omega), by rw [← hRM]; first | decide | (dsimp only; omega)⟩) hP hK zN_bl (zN_go hE) (q0 := 0) rfl rfl rfl rfl hl.1 rfl (Nat.le_of_ble_eq_true rfl) dX6_mark_11 ⟨Nat.zero_le _, Nat.zero_le _⟩ ?_
    refine zv_ifne_b (tgt := 20) hx hb dX6_mark_14 (by decide) (fun c_14 => ?_) (fun c_14 => ?_)
    · refine lv_iload_n hx hb dX6_mark_20 rfl (lv_at hl 1 rfl) ?_
      rcases (show kd = 0 ∨ kd = 1 ∨ kd = 2 ∨ kd = 3 ∨ kd = 4 ∨ (kd < 0 ∨ 4 < kd) by omega) with c_21 | c_21 | c_21 | c_21 | c_21 | c_21
      · refine zv_tableIn (k := 0) (tgt := 56) hx hb (by omega) c_21 (by omega) dX6_mark_21 rfl (by decide) ?_
        refine lv_aload_n hx hb dX6_mark_56 rfl (lv_at hl 0 rfl) ?_
        refine lv_dup hx hb dX6_mark_57 rfl ?_
        refine va_get (D := (dC, dI)) (ci := 5) (v := .long mtr) (C := RX6) (T := TX6) (N := 28) hx hb hts in_X6 hown hK hP 0 rfl rfl 0 (by decide) w_0 (fun _ h9 => h9) rfl dX6_mark_58 ?_
        refine lv_lconst (v := 1) hx hb dX6_mark_61 (by decide +kernel) ?_
        refine lv_ladd hx hb dX6_mark_62 ?_
        refine va_put (D := (dC, dI)) (ci := 5) (v := .long (mtr + ((1 : Int64)))) (ty := .long) (C := RX6) (T := TX6) (N := 28) hx hb hts in_X6 tyX6 tyX6_ok nmX6 hown hK hP hD hS 0 rfl rfl 0 (by decide) w_0 (fun _ h9 => h9) rfl (by decide +kernel) rfl rfl (Nat.le_of_ble_eq_true rfl) dX6_mark_63 (fun H locs hP hD hS => ?_)
        have hP : va_P (dC, dI) vwCl [(a0, .inr (5, [.long (mtr + ((1 : Int64))), .ref a1, .int (zI ty), .ref a2, .ref a3, .ref a4, .ref a5, .ref a6, .int (zI mat), .int (zI mst), .int (zI mso), .int (zI mva), .int (zI mfa), .ref a7, .ref a8, .ref a9, .int (zI mlo), .ref a10, .int (zI rm), .ref a11, .ref a12, .int (zI tm), .ref a13, .ref a14, .ref a15, .ref a16, .int (zI tmy), .ref a17])), (a1, .inl (cB, 200, .inl (zA tx))), (a2, .inl (cI, 2, .inl (zA pa))), (a3, .inl (cI, 18, .inl (zA ms))), (a4, .inl (cI, 18, .inl (zA ml))), (a5, .inl (cI, 18, .inl (zA mr))), (a6, .inl (cI, 18, .inl (zA mt))), (a7, .inl (cI, 1143, .inl (zA nw))), (a8, .inl (cZ, 2, .inl (zA ik))), (a9, .inl (cI, 9, .inl (zA sd))), (a10, .inl (cI, 9, .inl (zA ra))), (a11, .inl (cI, 9, .inl (zA bg))), (a12, .inl (cI, 4, .inl (zA to))), (a13, .inl (cI, 200, .inl (zA cd))), (a14, .inl (cI, 9, .inl (zA fi))), (a15, .inl (cI, 9, .inl (zA tsz))), (a16, .inl (cI, 9, .inl (zA tcm))), (a17, .inl (cI, 10, .inl (zA mg)))] H := hP
        have hD : va_D A [(a0, .inr (5, [.long (mtr + ((1 : Int64))), .ref a1, .int (zI ty), .ref a2, .ref a3, .ref a4, .ref a5, .ref a6, .int (zI mat), .int (zI mst), .int (zI mso), .int (zI mva), .int (zI mfa), .ref a7, .ref a8, .ref a9, .int (zI mlo), .ref a10, .int (zI rm), .ref a11, .ref a12, .int (zI tm), .ref a13, .ref a14, .ref a15, .ref a16, .int (zI tmy), .ref a17])), (a1, .inl (cB, 200, .inl (zA tx))), (a2, .inl (cI, 2, .inl (zA pa))), (a3, .inl (cI, 18, .inl (zA ms))), (a4, .inl (cI, 18, .inl (zA ml))), (a5, .inl (cI, 18, .inl (zA mr))), (a6, .inl (cI, 18, .inl (zA mt))), (a7, .inl (cI, 1143, .inl (zA nw))), (a8, .inl (cZ, 2, .inl (zA ik))), (a9, .inl (cI, 9, .inl (zA sd))), (a10, .inl (cI, 9, .inl (zA ra))), (a11, .inl (cI, 9, .inl (zA bg))), (a12, .inl (cI, 4, .inl (zA to))), (a13, .inl (cI, 200, .inl (zA cd))), (a14, .inl (cI, 9, .inl (zA fi))), (a15, .inl (cI, 9, .inl (zA tsz))), (a16, .inl (cI, 9, .inl (zA tcm))), (a17, .inl (cI, 10, .inl (zA mg)))] := hD
        refine lv_aload_n hx hb dX6_mark_66 rfl (lv_at hl 0 rfl) ?_
        refine va_get (D := (dC, dI)) (ci := 5) (v := .ref a7) (C := RX6) (T := TX6) (N := 28) hx hb hts in_X6 hown hK hP 0 rfl rfl 13 (by decide) w_1 (fun _ h9 => h9) rfl dX6_mark_67 ?_
        refine lv_iload_n hx hb dX6_mark_70 rfl (lv_at hl 2 rfl) ?_
        refine zv_iald hx hb hK hP 7 0 rfl rfl (by omega) dX6_mark_71 ?_
        rw [← hQQ]
        exact zw_iret hx hb hr hlocks ((mtr + ((1 : Int64)))) (congrArg (fun z => some (Value.int (zI z))) (show q_mark mt nw (fun j => nw (9 + j)) (nw 19) kd k = nw k from by unfold q_mark; (repeat' split) <;> first | rfl | omega)) (by unfold mkT; (repeat' split) <;> first | (exfalso; omega) | rfl) hP hS dX6_mark_72
      · refine zv_tableIn (k := 1) (tgt := 73) hx hb (by omega) c_21 (by omega) dX6_mark_21 rfl (by decide) ?_
        refine lv_aload_n hx hb dX6_mark_73 rfl (lv_at hl 0 rfl) ?_
        refine lv_dup hx hb dX6_mark_74 rfl ?_
        refine va_get (D := (dC, dI)) (ci := 5) (v := .long mtr) (C := RX6) (T := TX6) (N := 28) hx hb hts in_X6 hown hK hP 0 rfl rfl 0 (by decide) w_0 (fun _ h9 => h9) rfl dX6_mark_75 ?_
        refine lv_ldc2 hx hb hown w_2 dX6_mark_78 ?_
        refine lv_ladd hx hb dX6_mark_81 ?_
        refine va_put (D := (dC, dI)) (ci := 5) (v := .long (mtr + ((11 : Int64)))) (ty := .long) (C := RX6) (T := TX6) (N := 28) hx hb hts in_X6 tyX6 tyX6_ok nmX6 hown hK hP hD hS 0 rfl rfl 0 (by decide) w_0 (fun _ h9 => h9) rfl (by decide +kernel) rfl rfl (Nat.le_of_ble_eq_true rfl) dX6_mark_82 (fun H locs hP hD hS => ?_)
        have hP : va_P (dC, dI) vwCl [(a0, .inr (5, [.long (mtr + ((11 : Int64))), .ref a1, .int (zI ty), .ref a2, .ref a3, .ref a4, .ref a5, .ref a6, .int (zI mat), .int (zI mst), .int (zI mso), .int (zI mva), .int (zI mfa), .ref a7, .ref a8, .ref a9, .int (zI mlo), .ref a10, .int (zI rm), .ref a11, .ref a12, .int (zI tm), .ref a13, .ref a14, .ref a15, .ref a16, .int (zI tmy), .ref a17])), (a1, .inl (cB, 200, .inl (zA tx))), (a2, .inl (cI, 2, .inl (zA pa))), (a3, .inl (cI, 18, .inl (zA ms))), (a4, .inl (cI, 18, .inl (zA ml))), (a5, .inl (cI, 18, .inl (zA mr))), (a6, .inl (cI, 18, .inl (zA mt))), (a7, .inl (cI, 1143, .inl (zA nw))), (a8, .inl (cZ, 2, .inl (zA ik))), (a9, .inl (cI, 9, .inl (zA sd))), (a10, .inl (cI, 9, .inl (zA ra))), (a11, .inl (cI, 9, .inl (zA bg))), (a12, .inl (cI, 4, .inl (zA to))), (a13, .inl (cI, 200, .inl (zA cd))), (a14, .inl (cI, 9, .inl (zA fi))), (a15, .inl (cI, 9, .inl (zA tsz))), (a16, .inl (cI, 9, .inl (zA tcm))), (a17, .inl (cI, 10, .inl (zA mg)))] H := hP
        have hD : va_D A [(a0, .inr (5, [.long (mtr + ((11 : Int64))), .ref a1, .int (zI ty), .ref a2, .ref a3, .ref a4, .ref a5, .ref a6, .int (zI mat), .int (zI mst), .int (zI mso), .int (zI mva), .int (zI mfa), .ref a7, .ref a8, .ref a9, .int (zI mlo), .ref a10, .int (zI rm), .ref a11, .ref a12, .int (zI tm), .ref a13, .ref a14, .ref a15, .ref a16, .int (zI tmy), .ref a17])), (a1, .inl (cB, 200, .inl (zA tx))), (a2, .inl (cI, 2, .inl (zA pa))), (a3, .inl (cI, 18, .inl (zA ms))), (a4, .inl (cI, 18, .inl (zA ml))), (a5, .inl (cI, 18, .inl (zA mr))), (a6, .inl (cI, 18, .inl (zA mt))), (a7, .inl (cI, 1143, .inl (zA nw))), (a8, .inl (cZ, 2, .inl (zA ik))), (a9, .inl (cI, 9, .inl (zA sd))), (a10, .inl (cI, 9, .inl (zA ra))), (a11, .inl (cI, 9, .inl (zA bg))), (a12, .inl (cI, 4, .inl (zA to))), (a13, .inl (cI, 200, .inl (zA cd))), (a14, .inl (cI, 9, .inl (zA fi))), (a15, .inl (cI, 9, .inl (zA tsz))), (a16, .inl (cI, 9, .inl (zA tcm))), (a17, .inl (cI, 10, .inl (zA mg)))] := hD
        refine lv_aload_n hx hb dX6_mark_85 rfl (lv_at hl 0 rfl) ?_
        refine va_get (D := (dC, dI)) (ci := 5) (v := .ref a7) (C := RX6) (T := TX6) (N := 28) hx hb hts in_X6 hown hK hP 0 rfl rfl 13 (by decide) w_1 (fun _ h9 => h9) rfl dX6_mark_86 ?_
        refine lv_iload_n hx hb dX6_mark_89 rfl (lv_at hl 2 rfl) ?_
        refine zv_iald hx hb hK hP 7 0 rfl rfl (by omega) dX6_mark_90 ?_
        refine lv_aload_n hx hb dX6_mark_91 rfl (lv_at hl 0 rfl) ?_
        refine va_get (D := (dC, dI)) (ci := 5) (v := .ref a6) (C := RX6) (T := TX6) (N := 28) hx hb hts in_X6 hown hK hP 0 rfl rfl 7 (by decide) w_3 (fun _ h9 => h9) rfl dX6_mark_92 ?_
        refine lv_iload_n hx hb dX6_mark_95 rfl (lv_at hl 2 rfl) ?_
        refine zv_iald hx hb hK hP 6 0 rfl rfl (by omega) dX6_mark_96 ?_
        refine zv_iadd hx hb dX6_mark_97 ?_
        rw [← hQQ]
        exact zw_iret hx hb hr hlocks ((mtr + ((11 : Int64)))) (congrArg (fun z => some (Value.int (zI z))) (show q_mark mt nw (fun j => nw (9 + j)) (nw 19) kd k = (nw k) + (mt k) from by unfold q_mark; (repeat' split) <;> first | rfl | omega)) (by unfold mkT; (repeat' split) <;> first | (exfalso; omega) | rfl) hP hS dX6_mark_98
      · refine zv_tableIn (k := 2) (tgt := 99) hx hb (by omega) c_21 (by omega) dX6_mark_21 rfl (by decide) ?_
        refine lv_aload_n hx hb dX6_mark_99 rfl (lv_at hl 0 rfl) ?_
        refine lv_dup hx hb dX6_mark_100 rfl ?_
        refine va_get (D := (dC, dI)) (ci := 5) (v := .long mtr) (C := RX6) (T := TX6) (N := 28) hx hb hts in_X6 hown hK hP 0 rfl rfl 0 (by decide) w_0 (fun _ h9 => h9) rfl dX6_mark_101 ?_
        refine lv_ldc2 hx hb hown w_4 dX6_mark_104 ?_
        refine lv_ladd hx hb dX6_mark_107 ?_
        refine va_put (D := (dC, dI)) (ci := 5) (v := .long (mtr + ((101 : Int64)))) (ty := .long) (C := RX6) (T := TX6) (N := 28) hx hb hts in_X6 tyX6 tyX6_ok nmX6 hown hK hP hD hS 0 rfl rfl 0 (by decide) w_0 (fun _ h9 => h9) rfl (by decide +kernel) rfl rfl (Nat.le_of_ble_eq_true rfl) dX6_mark_108 (fun H locs hP hD hS => ?_)
        have hP : va_P (dC, dI) vwCl [(a0, .inr (5, [.long (mtr + ((101 : Int64))), .ref a1, .int (zI ty), .ref a2, .ref a3, .ref a4, .ref a5, .ref a6, .int (zI mat), .int (zI mst), .int (zI mso), .int (zI mva), .int (zI mfa), .ref a7, .ref a8, .ref a9, .int (zI mlo), .ref a10, .int (zI rm), .ref a11, .ref a12, .int (zI tm), .ref a13, .ref a14, .ref a15, .ref a16, .int (zI tmy), .ref a17])), (a1, .inl (cB, 200, .inl (zA tx))), (a2, .inl (cI, 2, .inl (zA pa))), (a3, .inl (cI, 18, .inl (zA ms))), (a4, .inl (cI, 18, .inl (zA ml))), (a5, .inl (cI, 18, .inl (zA mr))), (a6, .inl (cI, 18, .inl (zA mt))), (a7, .inl (cI, 1143, .inl (zA nw))), (a8, .inl (cZ, 2, .inl (zA ik))), (a9, .inl (cI, 9, .inl (zA sd))), (a10, .inl (cI, 9, .inl (zA ra))), (a11, .inl (cI, 9, .inl (zA bg))), (a12, .inl (cI, 4, .inl (zA to))), (a13, .inl (cI, 200, .inl (zA cd))), (a14, .inl (cI, 9, .inl (zA fi))), (a15, .inl (cI, 9, .inl (zA tsz))), (a16, .inl (cI, 9, .inl (zA tcm))), (a17, .inl (cI, 10, .inl (zA mg)))] H := hP
        have hD : va_D A [(a0, .inr (5, [.long (mtr + ((101 : Int64))), .ref a1, .int (zI ty), .ref a2, .ref a3, .ref a4, .ref a5, .ref a6, .int (zI mat), .int (zI mst), .int (zI mso), .int (zI mva), .int (zI mfa), .ref a7, .ref a8, .ref a9, .int (zI mlo), .ref a10, .int (zI rm), .ref a11, .ref a12, .int (zI tm), .ref a13, .ref a14, .ref a15, .ref a16, .int (zI tmy), .ref a17])), (a1, .inl (cB, 200, .inl (zA tx))), (a2, .inl (cI, 2, .inl (zA pa))), (a3, .inl (cI, 18, .inl (zA ms))), (a4, .inl (cI, 18, .inl (zA ml))), (a5, .inl (cI, 18, .inl (zA mr))), (a6, .inl (cI, 18, .inl (zA mt))), (a7, .inl (cI, 1143, .inl (zA nw))), (a8, .inl (cZ, 2, .inl (zA ik))), (a9, .inl (cI, 9, .inl (zA sd))), (a10, .inl (cI, 9, .inl (zA ra))), (a11, .inl (cI, 9, .inl (zA bg))), (a12, .inl (cI, 4, .inl (zA to))), (a13, .inl (cI, 200, .inl (zA cd))), (a14, .inl (cI, 9, .inl (zA fi))), (a15, .inl (cI, 9, .inl (zA tsz))), (a16, .inl (cI, 9, .inl (zA tcm))), (a17, .inl (cI, 10, .inl (zA mg)))] := hD
        refine lv_aload_n hx hb dX6_mark_111 rfl (lv_at hl 0 rfl) ?_
        refine va_get (D := (dC, dI)) (ci := 5) (v := .ref a7) (C := RX6) (T := TX6) (N := 28) hx hb hts in_X6 hown hK hP 0 rfl rfl 13 (by decide) w_1 (fun _ h9 => h9) rfl dX6_mark_112 ?_
        refine lv_iload_n hx hb dX6_mark_115 rfl (lv_at hl 2 rfl) ?_
        refine zv_iald hx hb hK hP 7 0 rfl rfl (by omega) dX6_mark_116 ?_
        refine lv_iload_n hx hb dX6_mark_117 rfl (lv_at hl 2 rfl) ?_
        refine zv_isub hx hb dX6_mark_118 ?_
        rw [← hQQ]
        exact zw_iret hx hb hr hlocks ((mtr + ((101 : Int64)))) (congrArg (fun z => some (Value.int (zI z))) (show q_mark mt nw (fun j => nw (9 + j)) (nw 19) kd k = (nw k) - k from by unfold q_mark; (repeat' split) <;> first | rfl | omega)) (by unfold mkT; (repeat' split) <;> first | (exfalso; omega) | rfl) hP hS dX6_mark_119
      · refine zv_tableIn (k := 3) (tgt := 120) hx hb (by omega) c_21 (by omega) dX6_mark_21 rfl (by decide) ?_
        refine lv_aload_n hx hb dX6_mark_120 rfl (lv_at hl 0 rfl) ?_
        refine lv_dup hx hb dX6_mark_121 rfl ?_
        refine va_get (D := (dC, dI)) (ci := 5) (v := .long mtr) (C := RX6) (T := TX6) (N := 28) hx hb hts in_X6 hown hK hP 0 rfl rfl 0 (by decide) w_0 (fun _ h9 => h9) rfl dX6_mark_122 ?_
        refine lv_ldc2 hx hb hown w_5 dX6_mark_125 ?_
        refine lv_ladd hx hb dX6_mark_128 ?_
        refine va_put (D := (dC, dI)) (ci := 5) (v := .long (mtr + ((1011 : Int64)))) (ty := .long) (C := RX6) (T := TX6) (N := 28) hx hb hts in_X6 tyX6 tyX6_ok nmX6 hown hK hP hD hS 0 rfl rfl 0 (by decide) w_0 (fun _ h9 => h9) rfl (by decide +kernel) rfl rfl (Nat.le_of_ble_eq_true rfl) dX6_mark_129 (fun H locs hP hD hS => ?_)
        have hP : va_P (dC, dI) vwCl [(a0, .inr (5, [.long (mtr + ((1011 : Int64))), .ref a1, .int (zI ty), .ref a2, .ref a3, .ref a4, .ref a5, .ref a6, .int (zI mat), .int (zI mst), .int (zI mso), .int (zI mva), .int (zI mfa), .ref a7, .ref a8, .ref a9, .int (zI mlo), .ref a10, .int (zI rm), .ref a11, .ref a12, .int (zI tm), .ref a13, .ref a14, .ref a15, .ref a16, .int (zI tmy), .ref a17])), (a1, .inl (cB, 200, .inl (zA tx))), (a2, .inl (cI, 2, .inl (zA pa))), (a3, .inl (cI, 18, .inl (zA ms))), (a4, .inl (cI, 18, .inl (zA ml))), (a5, .inl (cI, 18, .inl (zA mr))), (a6, .inl (cI, 18, .inl (zA mt))), (a7, .inl (cI, 1143, .inl (zA nw))), (a8, .inl (cZ, 2, .inl (zA ik))), (a9, .inl (cI, 9, .inl (zA sd))), (a10, .inl (cI, 9, .inl (zA ra))), (a11, .inl (cI, 9, .inl (zA bg))), (a12, .inl (cI, 4, .inl (zA to))), (a13, .inl (cI, 200, .inl (zA cd))), (a14, .inl (cI, 9, .inl (zA fi))), (a15, .inl (cI, 9, .inl (zA tsz))), (a16, .inl (cI, 9, .inl (zA tcm))), (a17, .inl (cI, 10, .inl (zA mg)))] H := hP
        have hD : va_D A [(a0, .inr (5, [.long (mtr + ((1011 : Int64))), .ref a1, .int (zI ty), .ref a2, .ref a3, .ref a4, .ref a5, .ref a6, .int (zI mat), .int (zI mst), .int (zI mso), .int (zI mva), .int (zI mfa), .ref a7, .ref a8, .ref a9, .int (zI mlo), .ref a10, .int (zI rm), .ref a11, .ref a12, .int (zI tm), .ref a13, .ref a14, .ref a15, .ref a16, .int (zI tmy), .ref a17])), (a1, .inl (cB, 200, .inl (zA tx))), (a2, .inl (cI, 2, .inl (zA pa))), (a3, .inl (cI, 18, .inl (zA ms))), (a4, .inl (cI, 18, .inl (zA ml))), (a5, .inl (cI, 18, .inl (zA mr))), (a6, .inl (cI, 18, .inl (zA mt))), (a7, .inl (cI, 1143, .inl (zA nw))), (a8, .inl (cZ, 2, .inl (zA ik))), (a9, .inl (cI, 9, .inl (zA sd))), (a10, .inl (cI, 9, .inl (zA ra))), (a11, .inl (cI, 9, .inl (zA bg))), (a12, .inl (cI, 4, .inl (zA to))), (a13, .inl (cI, 200, .inl (zA cd))), (a14, .inl (cI, 9, .inl (zA fi))), (a15, .inl (cI, 9, .inl (zA tsz))), (a16, .inl (cI, 9, .inl (zA tcm))), (a17, .inl (cI, 10, .inl (zA mg)))] := hD
        refine zv_iconst hx hb dX6_mark_132 ?_
        refine lv_aload_n hx hb dX6_mark_133 rfl (lv_at hl 0 rfl) ?_
        refine va_get (D := (dC, dI)) (ci := 5) (v := .ref a7) (C := RX6) (T := TX6) (N := 28) hx hb hts in_X6 hown hK hP 0 rfl rfl 13 (by decide) w_1 (fun _ h9 => h9) rfl dX6_mark_134 ?_
        refine lv_iload_n hx hb dX6_mark_137 rfl (lv_at hl 2 rfl) ?_
        refine zv_iald hx hb hK hP 7 0 rfl rfl (by omega) dX6_mark_138 ?_
        refine lv_aload_n hx hb dX6_mark_139 rfl (lv_at hl 0 rfl) ?_
        refine va_get (D := (dC, dI)) (ci := 5) (v := .ref a6) (C := RX6) (T := TX6) (N := 28) hx hb hts in_X6 hown hK hP 0 rfl rfl 7 (by decide) w_3 (fun _ h9 => h9) rfl dX6_mark_140 ?_
        refine lv_iload_n hx hb dX6_mark_143 rfl (lv_at hl 2 rfl) ?_
        refine zv_iald hx hb hK hP 6 0 rfl rfl (by omega) dX6_mark_144 ?_
        refine zv_iadd hx hb dX6_mark_145 ?_
        refine zv_imul hx hb dX6_mark_146 ?_
        rw [← hQQ]
        exact zw_iret hx hb hr hlocks ((mtr + ((1011 : Int64)))) (congrArg (fun z => some (Value.int (zI z))) (show q_mark mt nw (fun j => nw (9 + j)) (nw 19) kd k = 2 * ((nw k) + (mt k)) from by unfold q_mark; (repeat' split) <;> first | rfl | omega)) (by unfold mkT; (repeat' split) <;> first | (exfalso; omega) | rfl) hP hS dX6_mark_147
      · refine zv_tableIn (k := 4) (tgt := 148) hx hb (by omega) c_21 (by omega) dX6_mark_21 rfl (by decide) ?_
        refine lv_aload_n hx hb dX6_mark_148 rfl (lv_at hl 0 rfl) ?_
        refine lv_dup hx hb dX6_mark_149 rfl ?_
        refine va_get (D := (dC, dI)) (ci := 5) (v := .long mtr) (C := RX6) (T := TX6) (N := 28) hx hb hts in_X6 hown hK hP 0 rfl rfl 0 (by decide) w_0 (fun _ h9 => h9) rfl dX6_mark_150 ?_
        refine lv_ldc2 hx hb hown w_6 dX6_mark_153 ?_
        refine lv_ladd hx hb dX6_mark_156 ?_
        refine va_put (D := (dC, dI)) (ci := 5) (v := .long (mtr + ((10101 : Int64)))) (ty := .long) (C := RX6) (T := TX6) (N := 28) hx hb hts in_X6 tyX6 tyX6_ok nmX6 hown hK hP hD hS 0 rfl rfl 0 (by decide) w_0 (fun _ h9 => h9) rfl (by decide +kernel) rfl rfl (Nat.le_of_ble_eq_true rfl) dX6_mark_157 (fun H locs hP hD hS => ?_)
        have hP : va_P (dC, dI) vwCl [(a0, .inr (5, [.long (mtr + ((10101 : Int64))), .ref a1, .int (zI ty), .ref a2, .ref a3, .ref a4, .ref a5, .ref a6, .int (zI mat), .int (zI mst), .int (zI mso), .int (zI mva), .int (zI mfa), .ref a7, .ref a8, .ref a9, .int (zI mlo), .ref a10, .int (zI rm), .ref a11, .ref a12, .int (zI tm), .ref a13, .ref a14, .ref a15, .ref a16, .int (zI tmy), .ref a17])), (a1, .inl (cB, 200, .inl (zA tx))), (a2, .inl (cI, 2, .inl (zA pa))), (a3, .inl (cI, 18, .inl (zA ms))), (a4, .inl (cI, 18, .inl (zA ml))), (a5, .inl (cI, 18, .inl (zA mr))), (a6, .inl (cI, 18, .inl (zA mt))), (a7, .inl (cI, 1143, .inl (zA nw))), (a8, .inl (cZ, 2, .inl (zA ik))), (a9, .inl (cI, 9, .inl (zA sd))), (a10, .inl (cI, 9, .inl (zA ra))), (a11, .inl (cI, 9, .inl (zA bg))), (a12, .inl (cI, 4, .inl (zA to))), (a13, .inl (cI, 200, .inl (zA cd))), (a14, .inl (cI, 9, .inl (zA fi))), (a15, .inl (cI, 9, .inl (zA tsz))), (a16, .inl (cI, 9, .inl (zA tcm))), (a17, .inl (cI, 10, .inl (zA mg)))] H := hP
        have hD : va_D A [(a0, .inr (5, [.long (mtr + ((10101 : Int64))), .ref a1, .int (zI ty), .ref a2, .ref a3, .ref a4, .ref a5, .ref a6, .int (zI mat), .int (zI mst), .int (zI mso), .int (zI mva), .int (zI mfa), .ref a7, .ref a8, .ref a9, .int (zI mlo), .ref a10, .int (zI rm), .ref a11, .ref a12, .int (zI tm), .ref a13, .ref a14, .ref a15, .ref a16, .int (zI tmy), .ref a17])), (a1, .inl (cB, 200, .inl (zA tx))), (a2, .inl (cI, 2, .inl (zA pa))), (a3, .inl (cI, 18, .inl (zA ms))), (a4, .inl (cI, 18, .inl (zA ml))), (a5, .inl (cI, 18, .inl (zA mr))), (a6, .inl (cI, 18, .inl (zA mt))), (a7, .inl (cI, 1143, .inl (zA nw))), (a8, .inl (cZ, 2, .inl (zA ik))), (a9, .inl (cI, 9, .inl (zA sd))), (a10, .inl (cI, 9, .inl (zA ra))), (a11, .inl (cI, 9, .inl (zA bg))), (a12, .inl (cI, 4, .inl (zA to))), (a13, .inl (cI, 200, .inl (zA cd))), (a14, .inl (cI, 9, .inl (zA fi))), (a15, .inl (cI, 9, .inl (zA tsz))), (a16, .inl (cI, 9, .inl (zA tcm))), (a17, .inl (cI, 10, .inl (zA mg)))] := hD
        refine lv_aload_n hx hb dX6_mark_160 rfl (lv_at hl 0 rfl) ?_
        refine va_get (D := (dC, dI)) (ci := 5) (v := .ref a7) (C := RX6) (T := TX6) (N := 28) hx hb hts in_X6 hown hK hP 0 rfl rfl 13 (by decide) w_1 (fun _ h9 => h9) rfl dX6_mark_161 ?_
        refine lv_iload_n hx hb dX6_mark_164 rfl (lv_at hl 2 rfl) ?_
        refine zv_iald hx hb hK hP 7 0 rfl rfl (by omega) dX6_mark_165 ?_
        refine lv_iload_n hx hb dX6_mark_166 rfl (lv_at hl 2 rfl) ?_
        refine zv_isub hx hb dX6_mark_167 ?_
        refine lv_aload_n hx hb dX6_mark_168 rfl (lv_at hl 0 rfl) ?_
        refine va_get (D := (dC, dI)) (ci := 5) (v := .ref a7) (C := RX6) (T := TX6) (N := 28) hx hb hts in_X6 hown hK hP 0 rfl rfl 13 (by decide) w_1 (fun _ h9 => h9) rfl dX6_mark_169 ?_
        refine zv_bipush hx hb dX6_mark_172 (by decide +kernel) ?_
        refine zv_iald hx hb hK hP 7 0 rfl rfl (by omega) dX6_mark_174 ?_
        refine zv_iadd hx hb dX6_mark_175 ?_
        rw [← hQQ]
        exact zw_iret hx hb hr hlocks ((mtr + ((10101 : Int64)))) (congrArg (fun z => some (Value.int (zI z))) (show q_mark mt nw (fun j => nw (9 + j)) (nw 19) kd k = ((nw k) - k) + (nw 19) from by unfold q_mark; (repeat' split) <;> first | rfl | omega)) (by unfold mkT; (repeat' split) <;> first | (exfalso; omega) | rfl) hP hS dX6_mark_176
      · refine zv_tableOut (tgt := 177) hx hb (by omega) c_21 dX6_mark_21 (by decide) ?_
        refine lv_aload_n hx hb dX6_mark_177 rfl (lv_at hl 0 rfl) ?_
        refine lv_dup hx hb dX6_mark_178 rfl ?_
        refine va_get (D := (dC, dI)) (ci := 5) (v := .long mtr) (C := RX6) (T := TX6) (N := 28) hx hb hts in_X6 hown hK hP 0 rfl rfl 0 (by decide) w_0 (fun _ h9 => h9) rfl dX6_mark_179 ?_
        refine lv_ldc2 hx hb hown w_7 dX6_mark_182 ?_
        refine lv_ladd hx hb dX6_mark_185 ?_
        refine va_put (D := (dC, dI)) (ci := 5) (v := .long (mtr + ((100001 : Int64)))) (ty := .long) (C := RX6) (T := TX6) (N := 28) hx hb hts in_X6 tyX6 tyX6_ok nmX6 hown hK hP hD hS 0 rfl rfl 0 (by decide) w_0 (fun _ h9 => h9) rfl (by decide +kernel) rfl rfl (Nat.le_of_ble_eq_true rfl) dX6_mark_186 (fun H locs hP hD hS => ?_)
        have hP : va_P (dC, dI) vwCl [(a0, .inr (5, [.long (mtr + ((100001 : Int64))), .ref a1, .int (zI ty), .ref a2, .ref a3, .ref a4, .ref a5, .ref a6, .int (zI mat), .int (zI mst), .int (zI mso), .int (zI mva), .int (zI mfa), .ref a7, .ref a8, .ref a9, .int (zI mlo), .ref a10, .int (zI rm), .ref a11, .ref a12, .int (zI tm), .ref a13, .ref a14, .ref a15, .ref a16, .int (zI tmy), .ref a17])), (a1, .inl (cB, 200, .inl (zA tx))), (a2, .inl (cI, 2, .inl (zA pa))), (a3, .inl (cI, 18, .inl (zA ms))), (a4, .inl (cI, 18, .inl (zA ml))), (a5, .inl (cI, 18, .inl (zA mr))), (a6, .inl (cI, 18, .inl (zA mt))), (a7, .inl (cI, 1143, .inl (zA nw))), (a8, .inl (cZ, 2, .inl (zA ik))), (a9, .inl (cI, 9, .inl (zA sd))), (a10, .inl (cI, 9, .inl (zA ra))), (a11, .inl (cI, 9, .inl (zA bg))), (a12, .inl (cI, 4, .inl (zA to))), (a13, .inl (cI, 200, .inl (zA cd))), (a14, .inl (cI, 9, .inl (zA fi))), (a15, .inl (cI, 9, .inl (zA tsz))), (a16, .inl (cI, 9, .inl (zA tcm))), (a17, .inl (cI, 10, .inl (zA mg)))] H := hP
        have hD : va_D A [(a0, .inr (5, [.long (mtr + ((100001 : Int64))), .ref a1, .int (zI ty), .ref a2, .ref a3, .ref a4, .ref a5, .ref a6, .int (zI mat), .int (zI mst), .int (zI mso), .int (zI mva), .int (zI mfa), .ref a7, .ref a8, .ref a9, .int (zI mlo), .ref a10, .int (zI rm), .ref a11, .ref a12, .int (zI tm), .ref a13, .ref a14, .ref a15, .ref a16, .int (zI tmy), .ref a17])), (a1, .inl (cB, 200, .inl (zA tx))), (a2, .inl (cI, 2, .inl (zA pa))), (a3, .inl (cI, 18, .inl (zA ms))), (a4, .inl (cI, 18, .inl (zA ml))), (a5, .inl (cI, 18, .inl (zA mr))), (a6, .inl (cI, 18, .inl (zA mt))), (a7, .inl (cI, 1143, .inl (zA nw))), (a8, .inl (cZ, 2, .inl (zA ik))), (a9, .inl (cI, 9, .inl (zA sd))), (a10, .inl (cI, 9, .inl (zA ra))), (a11, .inl (cI, 9, .inl (zA bg))), (a12, .inl (cI, 4, .inl (zA to))), (a13, .inl (cI, 200, .inl (zA cd))), (a14, .inl (cI, 9, .inl (zA fi))), (a15, .inl (cI, 9, .inl (zA tsz))), (a16, .inl (cI, 9, .inl (zA tcm))), (a17, .inl (cI, 10, .inl (zA mg)))] := hD
        refine lv_aload_n hx hb dX6_mark_189 rfl (lv_at hl 0 rfl) ?_
        refine va_get (D := (dC, dI)) (ci := 5) (v := .ref a7) (C := RX6) (T := TX6) (N := 28) hx hb hts in_X6 hown hK hP 0 rfl rfl 13 (by decide) w_1 (fun _ h9 => h9) rfl dX6_mark_190 ?_
        refine lv_iload_n hx hb dX6_mark_193 rfl (lv_at hl 2 rfl) ?_
        refine zv_iald hx hb hK hP 7 0 rfl rfl (by omega) dX6_mark_194 ?_
        refine lv_aload_n hx hb dX6_mark_195 rfl (lv_at hl 0 rfl) ?_
        refine va_get (D := (dC, dI)) (ci := 5) (v := .ref a7) (C := RX6) (T := TX6) (N := 28) hx hb hts in_X6 hown hK hP 0 rfl rfl 13 (by decide) w_1 (fun _ h9 => h9) rfl dX6_mark_196 ?_
        refine zv_bipush hx hb dX6_mark_199 (by decide +kernel) ?_
        refine lv_iload_n hx hb dX6_mark_201 rfl (lv_at hl 2 rfl) ?_
        refine zv_iadd hx hb dX6_mark_202 ?_
        refine zv_iald hx hb hK hP 7 0 rfl rfl (by omega) dX6_mark_203 ?_
        refine zv_iadd hx hb dX6_mark_204 ?_
        rw [← hQQ]
        exact zw_iret hx hb hr hlocks ((mtr + ((100001 : Int64)))) (congrArg (fun z => some (Value.int (zI z))) (show q_mark mt nw (fun j => nw (9 + j)) (nw 19) kd k = (nw k) + (nw (9 + k)) from by unfold q_mark; (repeat' split) <;> first | rfl | omega)) (by unfold mkT; (repeat' split) <;> first | (exfalso; omega) | rfl) hP hS dX6_mark_205
    · exfalso; omega
