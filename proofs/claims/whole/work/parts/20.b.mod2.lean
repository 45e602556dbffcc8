/-! now's row in the model: a row shifted, a row laid, stands laid -/
def shf (nw : Int → Int) (i : Int) : Int → Int := fun k => if 21 ≤ k ∧ k < 21 + i then nw (k + 18) else nw k
def letA (nw : Int → Int) : Int → Int := if nw 20 = 20 then zu (shf nw 342) 20 (shf nw 342 20 - 1) else nw
def rwS (b : Int) (base : Int → Int) (i : Int) : Int → Int := fun k => if b ≤ k ∧ k < b + i then base (k - b) else base k
def stc (base g : Int → Int) (i : Int) : Int → Int := fun k => if 0 ≤ k ∧ k < i then g k else base k
def letN (nw g : Int → Int) (x : Int) : Int → Int :=
  if x = -9 then zu (stc (zu (rwS (21 + 18 * letA nw 20) (letA nw) 18) 20 (rwS (21 + 18 * letA nw 20) (letA nw) 18 20 + 1)) g 9) 19 (stc (zu (rwS (21 + 18 * letA nw 20) (letA nw) 18) 20 (rwS (21 + 18 * letA nw 20) (letA nw) 18 20 + 1)) g 9 19 + 1)
  else zu (zu (stc (zu (rwS (21 + 18 * letA nw 20) (letA nw) 18) 20 (rwS (21 + 18 * letA nw 20) (letA nw) 18 20 + 1)) g 9) (9 + x) (stc (zu (rwS (21 + 18 * letA nw 20) (letA nw) 18) 20 (rwS (21 + 18 * letA nw 20) (letA nw) 18 20 + 1)) g 9 (9 + x) + 1)) 19 (zu (stc (zu (rwS (21 + 18 * letA nw 20) (letA nw) 18) 20 (rwS (21 + 18 * letA nw 20) (letA nw) 18 20 + 1)) g 9) (9 + x) (stc (zu (rwS (21 + 18 * letA nw 20) (letA nw) 18) 20 (rwS (21 + 18 * letA nw 20) (letA nw) 18 20 + 1)) g 9 (9 + x) + 1) 19 + 1)
theorem shf_0 {nw : Int → Int} : shf nw 0 = nw := by
  funext k
  exact if_neg (by omega)
theorem shf_s {nw : Int → Int} {i : Int} (h : 0 ≤ i) : zu (shf nw i) (21 + i) (shf nw i (39 + i)) = shf nw (i + 1) := by
  funext k
  unfold zu shf
  by_cases h1 : k = 21 + i
  · rw [if_pos h1, if_neg (by omega), if_pos (by omega), h1]
    congr 1
    omega
  · rw [if_neg h1]
    by_cases h2 : 21 ≤ k ∧ k < 21 + i
    · rw [if_pos h2, if_pos (by omega)]
    · rw [if_neg h2, if_neg (by omega)]
theorem letA_20 {nw : Int → Int} (h : 0 ≤ nw 20 ∧ nw 20 ≤ 20) : 0 ≤ letA nw 20 ∧ letA nw 20 ≤ 19 ∧ letA nw 20 = (if nw 20 = 20 then 19 else nw 20) := by
  unfold letA
  by_cases q : nw 20 = 20
  · rw [if_pos q, if_pos q, zu_s]
    unfold shf
    rw [if_neg (by omega)]
    omega
  · rw [if_neg q, if_neg q]
    omega
theorem letA_lo {nw : Int → Int} {k : Int} (h : k < 20) : letA nw k = nw k := by
  unfold letA
  split
  · rw [zu_n (by omega)]
    unfold shf
    rw [if_neg (by omega)]
  · rfl
theorem rwS_0 {b : Int} {base : Int → Int} : rwS b base 0 = base := by
  funext k
  exact if_neg (by omega)
theorem rwS_20 {b : Int} {base : Int → Int} {i : Int} (h : 21 ≤ b) : rwS b base i 20 = base 20 := if_neg (by omega)
theorem rwS_s {b : Int} {base : Int → Int} {i : Int} (h : 21 ≤ b) (h2 : 0 ≤ i ∧ i < 18) : zu (rwS b base i) (b + i) (rwS b base i i) = rwS b base (i + 1) := by
  funext k
  unfold zu rwS
  by_cases h1 : k = b + i
  · rw [if_pos h1, if_neg (by omega), if_pos (by omega), h1]
    congr 1
    omega
  · rw [if_neg h1]
    by_cases h3 : b ≤ k ∧ k < b + i
    · rw [if_pos h3, if_pos (by omega)]
    · rw [if_neg h3, if_neg (by omega)]
theorem n3_st {nw : Int → Int} {v j : Int} (h : 0 ≤ letA nw 20) (h2 : letA nw 20 ≤ 19) (h0 : 0 ≤ j) (h1 : j < 19) : zu (rwS (21 + 18 * letA nw 20) (letA nw) 18) 20 v j = nw j := by
  rw [zu_n (by omega)]
  unfold rwS
  rw [if_neg (by omega)]
  exact letA_lo (by omega)
theorem n3_lo {nw : Int → Int} {v : Int} (h : 0 ≤ letA nw 20) (h2 : letA nw 20 ≤ 19) : zu (rwS (21 + 18 * letA nw 20) (letA nw) 18) 20 v 18 = nw 18 := n3_st h h2 (by omega) (by omega)
theorem stc_0 {base g : Int → Int} : stc base g 0 = base := by
  funext k
  exact if_neg (by omega)
theorem stc_s {base g : Int → Int} {i : Int} (h : 0 ≤ i) : zu (stc base g i) i (g i) = stc base g (i + 1) := by
  funext k
  unfold zu stc
  by_cases h1 : k = i
  · rw [if_pos h1, if_pos (by omega), h1]
  · rw [if_neg h1]
    by_cases h3 : 0 ≤ k ∧ k < i
    · rw [if_pos h3, if_pos (by omega)]
    · rw [if_neg h3, if_neg (by omega)]
def unS (nw : Int → Int) (i : Int) : Int → Int := fun k => if 0 ≤ k ∧ k < i then nw (21 + 18 * (nw 20 - 1) + k) else zu nw 20 (nw 20 - 1) k
def undN (nw : Int → Int) : Int → Int := zu (unS nw 18) 19 (unS nw 18 19 - 1)
theorem unS_0 {nw : Int → Int} : unS nw 0 = zu nw 20 (nw 20 - 1) := by
  funext k
  exact if_neg (by omega)
theorem unS_20 {nw : Int → Int} {i : Int} (h : i ≤ 18) : unS nw i 20 = nw 20 - 1 := by
  unfold unS
  rw [if_neg (by omega), zu_s]
theorem unS_19 {nw : Int → Int} {i : Int} (h : i ≤ 18) : unS nw i 19 = nw 19 := by
  unfold unS
  rw [if_neg (by omega), zu_n (by omega)]
theorem unS_s {nw : Int → Int} {i : Int} (h : 0 ≤ i ∧ i < 18) (h2 : 1 ≤ nw 20) : zu (unS nw i) i (unS nw i (21 + 18 * (nw 20 - 1) + i)) = unS nw (i + 1) := by
  funext k
  have e : unS nw i (21 + 18 * (nw 20 - 1) + i) = nw (21 + 18 * (nw 20 - 1) + i) := by
    unfold unS
    rw [if_neg (by omega), zu_n (by omega)]
  rw [e]
  unfold zu unS
  by_cases h1 : k = i
  · rw [if_pos h1, if_pos (by omega), h1]
  · rw [if_neg h1]
    by_cases h3 : 0 ≤ k ∧ k < i
    · rw [if_pos h3, if_pos (by omega)]
    · rw [if_neg h3, if_neg (by omega)]
theorem zc_0 {f g : Int → Int} {sp dp : Int} : zc f g sp dp 0 = g := by
  funext k
  exact if_neg (by omega)
theorem zc_s {f : Int → Int} {sp dp i : Int} (h : 0 ≤ i ∧ i < 381) (h2 : (sp = 0 ∧ (dp = 381 ∨ dp = 762)) ∨ (dp = 0 ∧ (sp = 381 ∨ sp = 762))) : zu (zc f f sp dp i) (dp + i) (zc f f sp dp i (sp + i)) = zc f f sp dp (i + 1) := by
  funext k
  have e : zc f f sp dp i (sp + i) = f (sp + i) := if_neg (by omega)
  rw [e]
  unfold zu zc
  by_cases h1 : k = dp + i
  · rw [if_pos h1, if_pos (by omega), h1]
    congr 1
    omega
  · rw [if_neg h1]
    by_cases h3 : dp ≤ k ∧ k < dp + i
    · rw [if_pos h3, if_pos (by omega)]
    · rw [if_neg h3, if_neg (by omega)]
def q_nowM (n : Int) (so nw : Int → Int) (w : Int) : Int := if w = 0 then nw 19 else if w = 1 then sF (fun j => nw (9 + j)) n.toNat else if w = 2 then nw 18 else if w = 3 then sF (gC so nw) n.toNat else -1
def q_mark (ti st al : Int → Int) (li kd k : Int) : Int := if kd = 0 then st k else if kd = 1 then st k + ti k else if kd = 2 then st k - k else if kd = 3 then 2 * (st k + ti k) else if kd = 4 then st k - k + li else st k + al k
def mkT (kd : Int) : Int64 := if kd = 0 then 1 else if kd = 1 then 11 else if kd = 2 then 101 else if kd = 3 then 1011 else if kd = 4 then 10101 else 100001
set_option maxHeartbeats 4000000 in
set_option maxRecDepth 100000 in
theorem c_X6_letN (l : Launch) (dC : Nat → ClassId) (dI : Nat → Nat → Nat) (cI cB cZ : ClassId) (a0 : Nat) (a1 : Nat) (a2 : Nat) (a3 : Nat) (a4 : Nat) (a5 : Nat) (a6 : Nat) (a7 : Nat) (a8 : Nat) (a9 : Nat) (a10 : Nat) (a11 : Nat) (a12 : Nat) (a13 : Nat) (a14 : Nat) (a15 : Nat) (a16 : Nat) (a17 : Nat) (mtr : Int64) (tx : Int → Int) (ty : Int) (pa : Int → Int) (ms : Int → Int) (ml : Int → Int) (mr : Int → Int) (mt : Int → Int) (mat : Int) (mst : Int) (mso : Int) (mva : Int) (mfa : Int) (nw : Int → Int) (ik : Int → Int) (sd : Int → Int) (mlo : Int) (ra : Int → Int) (rm : Int) (bg : Int → Int) (to : Int → Int) (tm : Int) (cd : Int → Int) (fi : Int → Int) (tsz : Int → Int) (tcm : Int → Int) (tmy : Int) (mg : Int → Int) (sz : Int) (hh : hOk (pa 0) ms ml mr mt) (hs : sOk (pa 0) ms mt nw) (hlo : -9 ≤ nw 18 ∧ nw 18 ≤ 8) (hli : 0 ≤ nw 19 ∧ nw 19 ≤ 100) (hkn : 0 ≤ nw 20 ∧ nw 20 ≤ 20) (hsz : -2147483648 ≤ sz ∧ sz ≤ 2147483647) (hno : ¬ ((sz = 0 ∨ sz = 1) ∧ pa 0 ≠ 0 ∧ nw 19 < 100)) : MetR l yX6_let wsX6_let ({ frames := 1, cells := 0, slots := 0, locals := 22 }) (dC, dI) vwCl (zT cI cB cZ) zN [(a0, .inr (5, [.long mtr, .ref a1, .int (zI ty), .ref a2, .ref a3, .ref a4, .ref a5, .ref a6, .int (zI mat), .int (zI mst), .int (zI mso), .int (zI mva), .int (zI mfa), .ref a7, .ref a8, .ref a9, .int (zI mlo), .ref a10, .int (zI rm), .ref a11, .ref a12, .int (zI tm), .ref a13, .ref a14, .ref a15, .ref a16, .int (zI tmy), .ref a17])), (a1, .inl (cB, 200, .inl (zA tx))), (a2, .inl (cI, 2, .inl (zA pa))), (a3, .inl (cI, 18, .inl (zA ms))), (a4, .inl (cI, 18, .inl (zA ml))), (a5, .inl (cI, 18, .inl (zA mr))), (a6, .inl (cI, 18, .inl (zA mt))), (a7, .inl (cI, 1143, .inl (zA nw))), (a8, .inl (cZ, 2, .inl (zA ik))), (a9, .inl (cI, 9, .inl (zA sd))), (a10, .inl (cI, 9, .inl (zA ra))), (a11, .inl (cI, 9, .inl (zA bg))), (a12, .inl (cI, 4, .inl (zA to))), (a13, .inl (cI, 200, .inl (zA cd))), (a14, .inl (cI, 9, .inl (zA fi))), (a15, .inl (cI, 9, .inl (zA tsz))), (a16, .inl (cI, 9, .inl (zA tcm))), (a17, .inl (cI, 10, .inl (zA mg)))] [.ref a0, .int (zI sz)] (zI (q_letN (pa 0) (nw 19) sz)) := by
  refine MetR.intro (cc := cX6_let) (maxL := 4) (ret := (some .int)) (by decide) rfl (Nat.le_of_ble_eq_true rfl) ?_
  intro p e s m args below meth c hx hb hr hlocks hml hts hown hP hK hE ls hl
  have hown : s.vm.findClass RX6 = some m.cls := hown
  have hl : lv_has ls 4 [(0, .ref a0), (1, .int (zI sz))] := hl
  generalize hRM : ({ frames := 1, cells := 0, slots := 0, locals := 22 } : Room) = RM
  generalize hQQ : MQ below (vp_Si (fun r => r = zI (q_letN (pa 0) (nw 19) sz))) args s 0 0 (fun _ => False) = QQ
  have in_X6 : ∀ w ∈ wsX60, w ∈ wsX6_let := by decide +kernel
  have w_0 := hts (.fieldLink RX6 13 "WallMarblesModel" "parts" "[I") (by decide +kernel)
  have w_1 := hts (.fieldLink RX6 29 "WallMarblesModel" "now" "[I") (by decide +kernel)
  have hn := hh.1
  refine lv_iload_n hx hb dX6_let_0 rfl (lv_at hl 1 rfl) ?_
  refine zv_iconst hx hb dX6_let_1 ?_
  refine zv_iconst hx hb dX6_let_2 ?_
  refine zv_callRS (As := [.int (zI sz), .int (zI 0), .int (zI 1)]) (rest := []) ⟨hx, hb, hml, hown, hts⟩ (c_X6_in l dC dI cI cB cZ sz 0 1 (by omega) (by omega) (by omega)) (va_cwS 3 hts gX6_let_X6_in rfl rfl rfl (by decide +kernel) ⟨by rw [← hRM]; first | decide | (dsimp only; omega), by rw [← hRM]; first | decide | (dsimp only; omega)⟩) hP hK [] rfl [0, 1, 2] rfl zN_bl (zN_go hE) rfl hl.1 rfl (Nat.le_of_ble_eq_true rfl) dX6_let_3 ⟨Nat.zero_le _, Nat.zero_le _⟩ ?_
  refine zv_ifne_b (tgt := 11) hx hb dX6_let_6 (by decide) (fun c_6 => ?_) (fun c_6 => ?_)
  · refine lv_aload_n hx hb dX6_let_11 rfl (lv_at hl 0 rfl) ?_
    refine va_get (D := (dC, dI)) (ci := 5) (v := .ref a2) (C := RX6) (T := TX6) (N := 28) hx hb hts in_X6 hown hK hP 0 rfl rfl 3 (by decide) w_0 (fun _ h9 => h9) rfl dX6_let_12 ?_
    refine zv_iconst hx hb dX6_let_15 ?_
    refine zv_iald hx hb hK hP 2 0 rfl rfl (by omega) dX6_let_16 ?_
    refine zv_if_ne (tgt := 23) hx hb (by omega) dX6_let_17 (by decide) (fun c_17 => ?_) (fun c_17 => ?_)
    · refine lv_aload_n hx hb dX6_let_23 rfl (lv_at hl 0 rfl) ?_
      refine va_get (D := (dC, dI)) (ci := 5) (v := .ref a7) (C := RX6) (T := TX6) (N := 28) hx hb hts in_X6 hown hK hP 0 rfl rfl 13 (by decide) w_1 (fun _ h9 => h9) rfl dX6_let_24 ?_
      refine zv_bipush hx hb dX6_let_27 (by decide +kernel) ?_
      refine zv_iald hx hb hK hP 7 0 rfl rfl (by omega) dX6_let_29 ?_
      refine zv_bipush hx hb dX6_let_30 (by decide +kernel) ?_
      refine zv_icmp_ne (tgt := 38) hx hb (by omega) (by omega) dX6_let_32 (by decide) (fun c_32 => ?_) (fun c_32 => ?_)
      · exfalso; omega
      · refine zv_bipush hx hb dX6_let_35 (by decide +kernel) ?_
        rw [← hQQ]
        exact zr_iret hx hb hr hlocks (congrArg zI (show (-3) = q_letN (pa 0) (nw 19) sz from by unfold q_letN; (repeat' split) <;> first | rfl | omega)) dX6_let_37
    · refine zv_bipush hx hb dX6_let_20 (by decide +kernel) ?_
      rw [← hQQ]
      exact zr_iret hx hb hr hlocks (congrArg zI (show (-2) = q_letN (pa 0) (nw 19) sz from by unfold q_letN; (repeat' split) <;> first | rfl | omega)) dX6_let_22
  · refine zv_iconst hx hb dX6_let_9 ?_
    rw [← hQQ]
    exact zr_iret hx hb hr hlocks (congrArg zI (show (-1) = q_letN (pa 0) (nw 19) sz from by unfold q_letN; (repeat' split) <;> first | rfl | omega)) dX6_let_10
set_option maxHeartbeats 4000000 in
set_option maxRecDepth 100000 in
theorem c_X6_letY (l : Launch) (dC : Nat → ClassId) (dI : Nat → Nat → Nat) (cI cB cZ : ClassId) (a0 : Nat) (a1 : Nat) (a2 : Nat) (a3 : Nat) (a4 : Nat) (a5 : Nat) (a6 : Nat) (a7 : Nat) (a8 : Nat) (a9 : Nat) (a10 : Nat) (a11 : Nat) (a12 : Nat) (a13 : Nat) (a14 : Nat) (a15 : Nat) (a16 : Nat) (a17 : Nat) (mtr : Int64) (tx : Int → Int) (ty : Int) (pa : Int → Int) (ms : Int → Int) (ml : Int → Int) (mr : Int → Int) (mt : Int → Int) (mat : Int) (mst : Int) (mso : Int) (mva : Int) (mfa : Int) (nw : Int → Int) (ik : Int → Int) (sd : Int → Int) (mlo : Int) (ra : Int → Int) (rm : Int) (bg : Int → Int) (to : Int → Int) (tm : Int) (cd : Int → Int) (fi : Int → Int) (tsz : Int → Int) (tcm : Int → Int) (tmy : Int) (mg : Int → Int) (sz : Int) (hh : hOk (pa 0) ms ml mr mt) (hs : sOk (pa 0) ms mt nw) (hlo : -9 ≤ nw 18 ∧ nw 18 ≤ 8) (hli : 0 ≤ nw 19 ∧ nw 19 ≤ 100) (hkn : 0 ≤ nw 20 ∧ nw 20 ≤ 20) (hsz : -2147483648 ≤ sz ∧ sz ≤ 2147483647) (hok : (sz = 0 ∨ sz = 1) ∧ pa 0 ≠ 0 ∧ nw 19 < 100) : MetW (S := (Int → Int) × (Int → Int)) l yX6_let wsX6_let ({ frames := 1, cells := 0, slots := 0, locals := 24 }) (dC, dI) vwCl (zT cI cB cZ) zN [(a0, .inr (5, [.long mtr, .ref a1, .int (zI ty), .ref a2, .ref a3, .ref a4, .ref a5, .ref a6, .int (zI mat), .int (zI mst), .int (zI mso), .int (zI mva), .int (zI mfa), .ref a7, .ref a8, .ref a9, .int (zI mlo), .ref a10, .int (zI rm), .ref a11, .ref a12, .int (zI tm), .ref a13, .ref a14, .ref a15, .ref a16, .int (zI tmy), .ref a17])), (a1, .inl (cB, 200, .inl (zA tx))), (a2, .inl (cI, 2, .inl (zA pa))), (a3, .inl (cI, 18, .inl (zA ms))), (a4, .inl (cI, 18, .inl (zA ml))), (a5, .inl (cI, 18, .inl (zA mr))), (a6, .inl (cI, 18, .inl (zA mt))), (a7, .inl (cI, 1143, .inl (zA nw))), (a8, .inl (cZ, 2, .inl (zA ik))), (a9, .inl (cI, 9, .inl (zA sd))), (a10, .inl (cI, 9, .inl (zA ra))), (a11, .inl (cI, 9, .inl (zA bg))), (a12, .inl (cI, 4, .inl (zA to))), (a13, .inl (cI, 200, .inl (zA cd))), (a14, .inl (cI, 9, .inl (zA fi))), (a15, .inl (cI, 9, .inl (zA tsz))), (a16, .inl (cI, 9, .inl (zA tcm))), (a17, .inl (cI, 10, .inl (zA mg)))] [.ref a0, .int (zI sz)] (fun u => some (.int (zI ((goS ms ml mr mt (nw 18) sz 9 nw (pa 0 - 1)).2)))) (fun u => [(a0, .inr (5, [.long mtr, .ref a1, .int (zI ty), .ref a2, .ref a3, .ref a4, .ref a5, .ref a6, .int (zI mat), .int (zI mst), .int (zI mso), .int (zI mva), .int (zI mfa), .ref a7, .ref a8, .ref a9, .int (zI (nw 18)), .ref a10, .int (zI rm), .ref a11, .ref a12, .int (zI tm), .ref a13, .ref a14, .ref a15, .ref a16, .int (zI tmy), .ref a17])), (a1, .inl (cB, 200, .inl (zA tx))), (a2, .inl (cI, 2, .inl (zA pa))), (a3, .inl (cI, 18, .inl (zA ms))), (a4, .inl (cI, 18, .inl (zA ml))), (a5, .inl (cI, 18, .inl (zA mr))), (a6, .inl (cI, 18, .inl (zA mt))), (a7, .inl (cI, 1143, .inl (zA u.1))), (a8, .inl (cZ, 2, .inl (zA ik))), (a9, .inl (cI, 9, .inl (zA u.2))), (a10, .inl (cI, 9, .inl (zA ra))), (a11, .inl (cI, 9, .inl (zA bg))), (a12, .inl (cI, 4, .inl (zA to))), (a13, .inl (cI, 200, .inl (zA cd))), (a14, .inl (cI, 9, .inl (zA fi))), (a15, .inl (cI, 9, .inl (zA tsz))), (a16, .inl (cI, 9, .inl (zA tcm))), (a17, .inl (cI, 10, .inl (zA mg)))]) (fun u => (u.1 = letN nw (goS ms ml mr mt (nw 18) sz 9 nw (pa 0 - 1)).1 (goS ms ml mr mt (nw 18) sz 9 nw (pa 0 - 1)).2)) := by
  refine MetW.intro (cc := cX6_let) (maxL := 4) (ret := (some .int)) (by decide) rfl (Nat.le_of_ble_eq_true rfl) ?_
  intro p e s m args below meth c A hx hb hr hlocks hml hts hown hP hK hD hS hA hE ls hl
  have hown : s.vm.findClass RX6 = some m.cls := hown
  have hl : lv_has ls 4 [(0, .ref a0), (1, .int (zI sz))] := hl
  generalize hRM : ({ frames := 1, cells := 0, slots := 0, locals := 24 } : Room) = RM
  generalize hQQ : MQ below (QW (S := (Int → Int) × (Int → Int)) (dC, dI) vwCl A (fun u => some (.int (zI ((goS ms ml mr mt (nw 18) sz 9 nw (pa 0 - 1)).2)))) (fun u => [(a0, .inr (5, [.long mtr, .ref a1, .int (zI ty), .ref a2, .ref a3, .ref a4, .ref a5, .ref a6, .int (zI mat), .int (zI mst), .int (zI mso), .int (zI mva), .int (zI mfa), .ref a7, .ref a8, .ref a9, .int (zI (nw 18)), .ref a10, .int (zI rm), .ref a11, .ref a12, .int (zI tm), .ref a13, .ref a14, .ref a15, .ref a16, .int (zI tmy), .ref a17])), (a1, .inl (cB, 200, .inl (zA tx))), (a2, .inl (cI, 2, .inl (zA pa))), (a3, .inl (cI, 18, .inl (zA ms))), (a4, .inl (cI, 18, .inl (zA ml))), (a5, .inl (cI, 18, .inl (zA mr))), (a6, .inl (cI, 18, .inl (zA mt))), (a7, .inl (cI, 1143, .inl (zA u.1))), (a8, .inl (cZ, 2, .inl (zA ik))), (a9, .inl (cI, 9, .inl (zA u.2))), (a10, .inl (cI, 9, .inl (zA ra))), (a11, .inl (cI, 9, .inl (zA bg))), (a12, .inl (cI, 4, .inl (zA to))), (a13, .inl (cI, 200, .inl (zA cd))), (a14, .inl (cI, 9, .inl (zA fi))), (a15, .inl (cI, 9, .inl (zA tsz))), (a16, .inl (cI, 9, .inl (zA tcm))), (a17, .inl (cI, 10, .inl (zA mg)))]) (fun u => (u.1 = letN nw (goS ms ml mr mt (nw 18) sz 9 nw (pa 0 - 1)).1 (goS ms ml mr mt (nw 18) sz 9 nw (pa 0 - 1)).2))) args s 0 0 A = QQ
  have in_X6 : ∀ w ∈ wsX60, w ∈ wsX6_let := by decide +kernel
  have w_0 := hts (.fieldLink RX6 29 "WallMarblesModel" "now" "[I") (by decide +kernel)
  have w_1 := hts (.fieldLink RX6 36 "WallMarblesModel" "stands" "[I") (by decide +kernel)
  have w_2 := hts (.fieldLink RX6 13 "WallMarblesModel" "parts" "[I") (by decide +kernel)
  have hn := hh.1
  obtain ⟨g1, g2⟩ := goS_ok hh (nw 18) sz 9 nw (pa 0 - 1) (by omega) (by omega) hs
  have a20 := letA_20 hkn
  have cut157 : ∀ (nM : Nat) (k : Int) (cur : Int → Int),  ((9 - k).toNat) < nM → (0 ≤ k ∧ k ≤ 9) → (cur = stc (zu (rwS (21 + 18 * letA nw 20) (letA nw) 18) 20 (rwS (21 + 18 * letA nw 20) (letA nw) 18 20 + 1)) (goS ms ml mr mt (nw 18) sz 9 nw (pa 0 - 1)).1 k) → ∀ (H : Heap) (locs : List Loc), va_P (dC, dI) vwCl [(a0, .inr (5, [.long mtr, .ref a1, .int (zI ty), .ref a2, .ref a3, .ref a4, .ref a5, .ref a6, .int (zI mat), .int (zI mst), .int (zI mso), .int (zI mva), .int (zI mfa), .ref a7, .ref a8, .ref a9, .int (zI (nw 18)), .ref a10, .int (zI rm), .ref a11, .ref a12, .int (zI tm), .ref a13, .ref a14, .ref a15, .ref a16, .int (zI tmy), .ref a17])), (a1, .inl (cB, 200, .inl (zA tx))), (a2, .inl (cI, 2, .inl (zA pa))), (a3, .inl (cI, 18, .inl (zA ms))), (a4, .inl (cI, 18, .inl (zA ml))), (a5, .inl (cI, 18, .inl (zA mr))), (a6, .inl (cI, 18, .inl (zA mt))), (a7, .inl (cI, 1143, .inl (zA cur))), (a8, .inl (cZ, 2, .inl (zA ik))), (a9, .inl (cI, 9, .inl (zA ((goS ms ml mr mt (nw 18) sz 9 nw (pa 0 - 1)).1)))), (a10, .inl (cI, 9, .inl (zA ra))), (a11, .inl (cI, 9, .inl (zA bg))), (a12, .inl (cI, 4, .inl (zA to))), (a13, .inl (cI, 200, .inl (zA cd))), (a14, .inl (cI, 9, .inl (zA fi))), (a15, .inl (cI, 9, .inl (zA tsz))), (a16, .inl (cI, 9, .inl (zA tcm))), (a17, .inl (cI, 10, .inl (zA mg)))] H → va_D A [(a0, .inr (5, [.long mtr, .ref a1, .int (zI ty), .ref a2, .ref a3, .ref a4, .ref a5, .ref a6, .int (zI mat), .int (zI mst), .int (zI mso), .int (zI mva), .int (zI mfa), .ref a7, .ref a8, .ref a9, .int (zI (nw 18)), .ref a10, .int (zI rm), .ref a11, .ref a12, .int (zI tm), .ref a13, .ref a14, .ref a15, .ref a16, .int (zI tmy), .ref a17])), (a1, .inl (cB, 200, .inl (zA tx))), (a2, .inl (cI, 2, .inl (zA pa))), (a3, .inl (cI, 18, .inl (zA ms))), (a4, .inl (cI, 18, .inl (zA ml))), (a5, .inl (cI, 18, .inl (zA mr))), (a6, .inl (cI, 18, .inl (zA mt))), (a7, .inl (cI, 1143, .inl (zA cur))), (a8, .inl (cZ, 2, .inl (zA ik))), (a9, .inl (cI, 9, .inl (zA ((goS ms ml mr mt (nw 18) sz 9 nw (pa 0 - 1)).1)))), (a10, .inl (cI, 9, .inl (zA ra))), (a11, .inl (cI, 9, .inl (zA bg))), (a12, .inl (cI, 4, .inl (zA to))), (a13, .inl (cI, 200, .inl (zA cd))), (a14, .inl (cI, 9, .inl (zA fi))), (a15, .inl (cI, 9, .inl (zA tsz))), (a16, .inl (cI, 9, .inl (zA tcm))), (a17, .inl (cI, 10, .inl (zA mg)))] → va_S A s.heap H locs → ∀ ls : Array Slot, lv_has ls 4 [(0, .ref a0), (2, .int (zI ((goS ms ml mr mt (nw 18) sz 9 nw (pa 0 - 1)).2))), (3, .int (zI k))] → W p l e RM s m args below meth c H locs 0 0 QQ (F0 m 157 ls []) := by
    intro nM
    induction nM with
    | zero => intro k cur hmu; exact absurd hmu (Nat.not_lt_zero _)
    | succ nM ih157 =>
      intro k cur hmu hk hc H locs hP hD hS ls hl
      refine lv_iload_n hx hb dX6_let_157 rfl (lv_at hl 2 rfl) ?_
      refine zv_bipush hx hb dX6_let_158 (by decide +kernel) ?_
      refine zv_icmp_ge (tgt := 181) hx hb (by omega) (by omega) dX6_let_160 (by decide) (fun c_160 => ?_) (fun c_160 => ?_)
      · have ek : k = 9 := by omega
        subst ek
        refine lv_iload_n hx hb dX6_let_181 rfl (lv_at hl 1 rfl) ?_
        refine zv_bipush hx hb dX6_let_182 (by decide +kernel) ?_
        refine zv_icmp_eq (tgt := 200) hx hb (by omega) (by omega) dX6_let_184 (by decide) (fun c_184 => ?_) (fun c_184 => ?_)
        · refine lv_aload_n hx hb dX6_let_200 rfl (lv_at hl 0 rfl) ?_
          refine va_get (D := (dC, dI)) (ci := 5) (v := .ref a7) (C := RX6) (T := TX6) (N := 28) hx hb hts in_X6 hown hK hP 0 rfl rfl 13 (by decide) w_0 (fun _ h9 => h9) rfl dX6_let_201 ?_
          refine zv_bipush hx hb dX6_let_204 (by decide +kernel) ?_
          refine lv_dup2_11 hx hb dX6_let_206 rfl rfl ?_
          refine zv_iald hx hb hK hP 7 0 rfl rfl (by omega) dX6_let_207 ?_
          refine zv_iconst hx hb dX6_let_208 ?_
          refine zv_iadd hx hb dX6_let_209 ?_
          refine zv_iast (ws' := [(a0, .inr (5, [.long mtr, .ref a1, .int (zI ty), .ref a2, .ref a3, .ref a4, .ref a5, .ref a6, .int (zI mat), .int (zI mst), .int (zI mso), .int (zI mva), .int (zI mfa), .ref a7, .ref a8, .ref a9, .int (zI (nw 18)), .ref a10, .int (zI rm), .ref a11, .ref a12, .int (zI tm), .ref a13, .ref a14, .ref a15, .ref a16, .int (zI tmy), .ref a17])), (a1, .inl (cB, 200, .inl (zA tx))), (a2, .inl (cI, 2, .inl (zA pa))), (a3, .inl (cI, 18, .inl (zA ms))), (a4, .inl (cI, 18, .inl (zA ml))), (a5, .inl (cI, 18, .inl (zA mr))), (a6, .inl (cI, 18, .inl (zA mt))), (a7, .inl (cI, 1143, .inl (zA (zu cur 19 ((cur 19) + 1))))), (a8, .inl (cZ, 2, .inl (zA ik))), (a9, .inl (cI, 9, .inl (zA ((goS ms ml mr mt (nw 18) sz 9 nw (pa 0 - 1)).1)))), (a10, .inl (cI, 9, .inl (zA ra))), (a11, .inl (cI, 9, .inl (zA bg))), (a12, .inl (cI, 4, .inl (zA to))), (a13, .inl (cI, 200, .inl (zA cd))), (a14, .inl (cI, 9, .inl (zA fi))), (a15, .inl (cI, 9, .inl (zA tsz))), (a16, .inl (cI, 9, .inl (zA tcm))), (a17, .inl (cI, 10, .inl (zA mg)))]) hx hb hK hP hD hS 7 0 rfl rfl (by omega) rfl dX6_let_210 (fun H locs hP hD hS => ?_)
          refine lv_iload_n hx hb dX6_let_211 rfl (lv_at hl 1 rfl) ?_
          rw [← hQQ]
          exact zw_iret hx hb hr hlocks ((zu cur 19 ((cur 19) + 1)), ((goS ms ml mr mt (nw 18) sz 9 nw (pa 0 - 1)).1)) rfl (by rw [hc]; unfold letN; first | (rw [if_pos c_184]) | (rw [if_neg c_184])) hP hS dX6_let_212
        · refine lv_aload_n hx hb dX6_let_187 rfl (lv_at hl 0 rfl) ?_
          refine va_get (D := (dC, dI)) (ci := 5) (v := .ref a7) (C := RX6) (T := TX6) (N := 28) hx hb hts in_X6 hown hK hP 0 rfl rfl 13 (by decide) w_0 (fun _ h9 => h9) rfl dX6_let_188 ?_
          refine zv_bipush hx hb dX6_let_191 (by decide +kernel) ?_
          refine lv_iload_n hx hb dX6_let_193 rfl (lv_at hl 1 rfl) ?_
          refine zv_iadd hx hb dX6_let_194 ?_
          refine lv_dup2_11 hx hb dX6_let_195 rfl rfl ?_
          refine zv_iald hx hb hK hP 7 0 rfl rfl (by omega) dX6_let_196 ?_
          refine zv_iconst hx hb dX6_let_197 ?_
          refine zv_iadd hx hb dX6_let_198 ?_
          refine zv_iast (ws' := [(a0, .inr (5, [.long mtr, .ref a1, .int (zI ty), .ref a2, .ref a3, .ref a4, .ref a5, .ref a6, .int (zI mat), .int (zI mst), .int (zI mso), .int (zI mva), .int (zI mfa), .ref a7, .ref a8, .ref a9, .int (zI (nw 18)), .ref a10, .int (zI rm), .ref a11, .ref a12, .int (zI tm), .ref a13, .ref a14, .ref a15, .ref a16, .int (zI tmy), .ref a17])), (a1, .inl (cB, 200, .inl (zA tx))), (a2, .inl (cI, 2, .inl (zA pa))), (a3, .inl (cI, 18, .inl (zA ms))), (a4, .inl (cI, 18, .inl (zA ml))), (a5, .inl (cI, 18, .inl (zA mr))), (a6, .inl (cI, 18, .inl (zA mt))), (a7, .inl (cI, 1143, .inl (zA (zu cur (9 + ((goS ms ml mr mt (nw 18) sz 9 nw (pa 0 - 1)).2)) ((cur (9 + ((goS ms ml mr mt (nw 18) sz 9 nw (pa 0 - 1)).2))) + 1))))), (a8, .inl (cZ, 2, .inl (zA ik))), (a9, .inl (cI, 9, .inl (zA ((goS ms ml mr mt (nw 18) sz 9 nw (pa 0 - 1)).1)))), (a10, .inl (cI, 9, .inl (zA ra))), (a11, .inl (cI, 9, .inl (zA bg))), (a12, .inl (cI, 4, .inl (zA to))), (a13, .inl (cI, 200, .inl (zA cd))), (a14, .inl (cI, 9, .inl (zA fi))), (a15, .inl (cI, 9, .inl (zA tsz))), (a16, .inl (cI, 9, .inl (zA tcm))), (a17, .inl (cI, 10, .inl (zA mg)))]) hx hb hK hP hD hS 7 0 rfl rfl (by omega) rfl dX6_let_199 (fun H locs hP hD hS => ?_)
          refine lv_aload_n hx hb dX6_let_200 rfl (lv_at hl 0 rfl) ?_
          refine va_get (D := (dC, dI)) (ci := 5) (v := .ref a7) (C := RX6) (T := TX6) (N := 28) hx hb hts in_X6 hown hK hP 0 rfl rfl 13 (by decide) w_0 (fun _ h9 => h9) rfl dX6_let_201 ?_
          refine zv_bipush hx hb dX6_let_204 (by decide +kernel) ?_
          refine lv_dup2_11 hx hb dX6_let_206 rfl rfl ?_
          refine zv_iald hx hb hK hP 7 0 rfl rfl (by omega) dX6_let_207 ?_
          refine zv_iconst hx hb dX6_let_208 ?_
          refine zv_iadd hx hb dX6_let_209 ?_
          refine zv_iast (ws' := [(a0, .inr (5, [.long mtr, .ref a1, .int (zI ty), .ref a2, .ref a3, .ref a4, .ref a5, .ref a6, .int (zI mat), .int (zI mst), .int (zI mso), .int (zI mva), .int (zI mfa), .ref a7, .ref a8, .ref a9, .int (zI (nw 18)), .ref a10, .int (zI rm), .ref a11, .ref a12, .int (zI tm), .ref a13, .ref a14, .ref a15, .ref a16, .int (zI tmy), .ref a17])), (a1, .inl (cB, 200, .inl (zA tx))), (a2, .inl (cI, 2, .inl (zA pa))), (a3, .inl (cI, 18, .inl (zA ms))), (a4, .inl (cI, 18, .inl (zA ml))), (a5, .inl (cI, 18, .inl (zA mr))), (a6, .inl (cI, 18, .inl (zA mt))), (a7, .inl (cI, 1143, .inl (zA (zu (zu cur (9 + ((goS ms ml mr mt (nw 18) sz 9 nw (pa 0 - 1)).2)) ((cur (9 + ((goS ms ml mr mt (nw 18) sz 9 nw (pa 0 - 1)).2))) + 1)) 19 (((zu cur (9 + ((goS ms ml mr mt (nw 18) sz 9 nw (pa 0 - 1)).2)) ((cur (9 + ((goS ms ml mr mt (nw 18) sz 9 nw (pa 0 - 1)).2))) + 1)) 19) + 1))))), (a8, .inl (cZ, 2, .inl (zA ik))), (a9, .inl (cI, 9, .inl (zA ((goS ms ml mr mt (nw 18) sz 9 nw (pa 0 - 1)).1)))), (a10, .inl (cI, 9, .inl (zA ra))), (a11, .inl (cI, 9, .inl (zA bg))), (a12, .inl (cI, 4, .inl (zA to))), (a13, .inl (cI, 200, .inl (zA cd))), (a14, .inl (cI, 9, .inl (zA fi))), (a15, .inl (cI, 9, .inl (zA tsz))), (a16, .inl (cI, 9, .inl (zA tcm))), (a17, .inl (cI, 10, .inl (zA mg)))]) hx hb hK hP hD hS 7 0 rfl rfl (by omega) rfl dX6_let_210 (fun H locs hP hD hS => ?_)
          refine lv_iload_n hx hb dX6_let_211 rfl (lv_at hl 1 rfl) ?_
          rw [← hQQ]
          exact zw_iret hx hb hr hlocks ((zu (zu cur (9 + ((goS ms ml mr mt (nw 18) sz 9 nw (pa 0 - 1)).2)) ((cur (9 + ((goS ms ml mr mt (nw 18) sz 9 nw (pa 0 - 1)).2))) + 1)) 19 (((zu cur (9 + ((goS ms ml mr mt (nw 18) sz 9 nw (pa 0 - 1)).2)) ((cur (9 + ((goS ms ml mr mt (nw 18) sz 9 nw (pa 0 - 1)).2))) + 1)) 19) + 1)), ((goS ms ml mr mt (nw 18) sz 9 nw (pa 0 - 1)).1)) rfl (by rw [hc]; unfold letN; first | (rw [if_pos c_184]) | (rw [if_neg c_184])) hP hS dX6_let_212
      · refine lv_aload_n hx hb dX6_let_163 rfl (lv_at hl 0 rfl) ?_
        refine va_get (D := (dC, dI)) (ci := 5) (v := .ref a7) (C := RX6) (T := TX6) (N := 28) hx hb hts in_X6 hown hK hP 0 rfl rfl 13 (by decide) w_0 (fun _ h9 => h9) rfl dX6_let_164 ?_
        refine lv_iload_n hx hb dX6_let_167 rfl (lv_at hl 2 rfl) ?_
        refine lv_aload_n hx hb dX6_let_168 rfl (lv_at hl 0 rfl) ?_
        refine va_get (D := (dC, dI)) (ci := 5) (v := .ref a9) (C := RX6) (T := TX6) (N := 28) hx hb hts in_X6 hown hK hP 0 rfl rfl 15 (by decide) w_1 (fun _ h9 => h9) rfl dX6_let_169 ?_
        refine lv_iload_n hx hb dX6_let_172 rfl (lv_at hl 2 rfl) ?_
        refine zv_iald hx hb hK hP 9 0 rfl rfl (by omega) dX6_let_173 ?_
        refine zv_iast (ws' := [(a0, .inr (5, [.long mtr, .ref a1, .int (zI ty), .ref a2, .ref a3, .ref a4, .ref a5, .ref a6, .int (zI mat), .int (zI mst), .int (zI mso), .int (zI mva), .int (zI mfa), .ref a7, .ref a8, .ref a9, .int (zI (nw 18)), .ref a10, .int (zI rm), .ref a11, .ref a12, .int (zI tm), .ref a13, .ref a14, .ref a15, .ref a16, .int (zI tmy), .ref a17])), (a1, .inl (cB, 200, .inl (zA tx))), (a2, .inl (cI, 2, .inl (zA pa))), (a3, .inl (cI, 18, .inl (zA ms))), (a4, .inl (cI, 18, .inl (zA ml))), (a5, .inl (cI, 18, .inl (zA mr))), (a6, .inl (cI, 18, .inl (zA mt))), (a7, .inl (cI, 1143, .inl (zA (zu cur k (((goS ms ml mr mt (nw 18) sz 9 nw (pa 0 - 1)).1) k))))), (a8, .inl (cZ, 2, .inl (zA ik))), (a9, .inl (cI, 9, .inl (zA ((goS ms ml mr mt (nw 18) sz 9 nw (pa 0 - 1)).1)))), (a10, .inl (cI, 9, .inl (zA ra))), (a11, .inl (cI, 9, .inl (zA bg))), (a12, .inl (cI, 4, .inl (zA to))), (a13, .inl (cI, 200, .inl (zA cd))), (a14, .inl (cI, 9, .inl (zA fi))), (a15, .inl (cI, 9, .inl (zA tsz))), (a16, .inl (cI, 9, .inl (zA tcm))), (a17, .inl (cI, 10, .inl (zA mg)))]) hx hb hK hP hD hS 7 0 rfl rfl (by omega) rfl dX6_let_174 (fun H locs hP hD hS => ?_)
        refine zv_iinc (k := 2) (a := k) (n := 1) (lv' := [(3, .int (zI (k + 1))), (0, .ref a0), (2, .int (zI ((goS ms ml mr mt (nw 18) sz 9 nw (pa 0 - 1)).2)))]) hx hb dX6_let_175 hl rfl (by decide) rfl (fun ls hl => ?_)
        refine lv_goto (tgt := 157) hx hb dX6_let_178 (by decide) ?_
        exact ih157 (k + 1) (zu cur k (((goS ms ml mr mt (nw 18) sz 9 nw (pa 0 - 1)).1) k)) (by omega) (by omega) (by rw [hc]; exact stc_s (by omega)) _ _ hP hD hS _ (lv_sub hl [1, 2, 0] rfl)
  have cut96 : ∀ (nM : Nat) (k : Int) (cur : Int → Int),  ((18 - k).toNat) < nM → (0 ≤ k ∧ k ≤ 18) → (cur = rwS (21 + 18 * letA nw 20) (letA nw) k) → ∀ (H : Heap) (locs : List Loc), va_P (dC, dI) vwCl [(a0, .inr (5, [.long mtr, .ref a1, .int (zI ty), .ref a2, .ref a3, .ref a4, .ref a5, .ref a6, .int (zI mat), .int (zI mst), .int (zI mso), .int (zI mva), .int (zI mfa), .ref a7, .ref a8, .ref a9, .int (zI mlo), .ref a10, .int (zI rm), .ref a11, .ref a12, .int (zI tm), .ref a13, .ref a14, .ref a15, .ref a16, .int (zI tmy), .ref a17])), (a1, .inl (cB, 200, .inl (zA tx))), (a2, .inl (cI, 2, .inl (zA pa))), (a3, .inl (cI, 18, .inl (zA ms))), (a4, .inl (cI, 18, .inl (zA ml))), (a5, .inl (cI, 18, .inl (zA mr))), (a6, .inl (cI, 18, .inl (zA mt))), (a7, .inl (cI, 1143, .inl (zA cur))), (a8, .inl (cZ, 2, .inl (zA ik))), (a9, .inl (cI, 9, .inl (zA sd))), (a10, .inl (cI, 9, .inl (zA ra))), (a11, .inl (cI, 9, .inl (zA bg))), (a12, .inl (cI, 4, .inl (zA to))), (a13, .inl (cI, 200, .inl (zA cd))), (a14, .inl (cI, 9, .inl (zA fi))), (a15, .inl (cI, 9, .inl (zA tsz))), (a16, .inl (cI, 9, .inl (zA tcm))), (a17, .inl (cI, 10, .inl (zA mg)))] H → va_D A [(a0, .inr (5, [.long mtr, .ref a1, .int (zI ty), .ref a2, .ref a3, .ref a4, .ref a5, .ref a6, .int (zI mat), .int (zI mst), .int (zI mso), .int (zI mva), .int (zI mfa), .ref a7, .ref a8, .ref a9, .int (zI mlo), .ref a10, .int (zI rm), .ref a11, .ref a12, .int (zI tm), .ref a13, .ref a14, .ref a15, .ref a16, .int (zI tmy), .ref a17])), (a1, .inl (cB, 200, .inl (zA tx))), (a2, .inl (cI, 2, .inl (zA pa))), (a3, .inl (cI, 18, .inl (zA ms))), (a4, .inl (cI, 18, .inl (zA ml))), (a5, .inl (cI, 18, .inl (zA mr))), (a6, .inl (cI, 18, .inl (zA mt))), (a7, .inl (cI, 1143, .inl (zA cur))), (a8, .inl (cZ, 2, .inl (zA ik))), (a9, .inl (cI, 9, .inl (zA sd))), (a10, .inl (cI, 9, .inl (zA ra))), (a11, .inl (cI, 9, .inl (zA bg))), (a12, .inl (cI, 4, .inl (zA to))), (a13, .inl (cI, 200, .inl (zA cd))), (a14, .inl (cI, 9, .inl (zA fi))), (a15, .inl (cI, 9, .inl (zA tsz))), (a16, .inl (cI, 9, .inl (zA tcm))), (a17, .inl (cI, 10, .inl (zA mg)))] → va_S A s.heap H locs → ∀ ls : Array Slot, lv_has ls 4 [(0, .ref a0), (1, .int (zI sz)), (2, .int (zI k))] → W p l e RM s m args below meth c H locs 0 0 QQ (F0 m 96 ls []) := by
    intro nM
    induction nM with
    | zero => intro k cur hmu; exact absurd hmu (Nat.not_lt_zero _)
    | succ nM ih96 =>
      intro k cur hmu hk hc H locs hP hD hS ls hl
      refine lv_iload_n hx hb dX6_let_96 rfl (lv_at hl 2 rfl) ?_
      refine zv_bipush hx hb dX6_let_97 (by decide +kernel) ?_
      have c20 : cur 20 = letA nw 20 := by rw [hc]; exact rwS_20 (by omega)
      refine zv_icmp_ge (tgt := 134) hx hb (by omega) (by omega) dX6_let_99 (by decide) (fun c_99 => ?_) (fun c_99 => ?_)
      · have ek : k = 18 := by omega
        subst ek
        refine lv_aload_n hx hb dX6_let_134 rfl (lv_at hl 0 rfl) ?_
        refine va_get (D := (dC, dI)) (ci := 5) (v := .ref a7) (C := RX6) (T := TX6) (N := 28) hx hb hts in_X6 hown hK hP 0 rfl rfl 13 (by decide) w_0 (fun _ h9 => h9) rfl dX6_let_135 ?_
        refine zv_bipush hx hb dX6_let_138 (by decide +kernel) ?_
        refine lv_dup2_11 hx hb dX6_let_140 rfl rfl ?_
        refine zv_iald hx hb hK hP 7 0 rfl rfl (by omega) dX6_let_141 ?_
        refine zv_iconst hx hb dX6_let_142 ?_
        refine zv_iadd hx hb dX6_let_143 ?_
        refine zv_iast (ws' := [(a0, .inr (5, [.long mtr, .ref a1, .int (zI ty), .ref a2, .ref a3, .ref a4, .ref a5, .ref a6, .int (zI mat), .int (zI mst), .int (zI mso), .int (zI mva), .int (zI mfa), .ref a7, .ref a8, .ref a9, .int (zI mlo), .ref a10, .int (zI rm), .ref a11, .ref a12, .int (zI tm), .ref a13, .ref a14, .ref a15, .ref a16, .int (zI tmy), .ref a17])), (a1, .inl (cB, 200, .inl (zA tx))), (a2, .inl (cI, 2, .inl (zA pa))), (a3, .inl (cI, 18, .inl (zA ms))), (a4, .inl (cI, 18, .inl (zA ml))), (a5, .inl (cI, 18, .inl (zA mr))), (a6, .inl (cI, 18, .inl (zA mt))), (a7, .inl (cI, 1143, .inl (zA (zu cur 20 ((cur 20) + 1))))), (a8, .inl (cZ, 2, .inl (zA ik))), (a9, .inl (cI, 9, .inl (zA sd))), (a10, .inl (cI, 9, .inl (zA ra))), (a11, .inl (cI, 9, .inl (zA bg))), (a12, .inl (cI, 4, .inl (zA to))), (a13, .inl (cI, 200, .inl (zA cd))), (a14, .inl (cI, 9, .inl (zA fi))), (a15, .inl (cI, 9, .inl (zA tsz))), (a16, .inl (cI, 9, .inl (zA tcm))), (a17, .inl (cI, 10, .inl (zA mg)))]) hx hb hK hP hD hS 7 0 rfl rfl (by omega) rfl dX6_let_144 (fun H locs hP hD hS => ?_)
        refine lv_aload_n hx hb dX6_let_145 rfl (lv_at hl 0 rfl) ?_
        refine zv_callWVa (As := []) (rest := []) ⟨hx, hb, hml, hown, hts⟩ (c_X6_fromNow l dC dI cI cB cZ a0 a1 a2 a3 a4 a5 a6 a7 a8 a9 a10 a11 a12 a13 a14 a15 a16 a17 mtr tx ty pa ms ml mr mt mat mst mso mva mfa (zu cur 20 ((cur 20) + 1)) ik sd mlo ra rm bg to tm cd fi tsz tcm tmy mg ) (cwV 0 hts gX6_let_X6_fromNow rfl rfl rfl (by decide +kernel) ⟨by rw [← hRM]; first | decide | (dsimp only; omega), by rw [← hRM]; first | decide | (dsimp only; omega)⟩) hP hD hS hA hK zN_bl (zN_go hE) (fun _ => rfl) (q0 := 0) rfl rfl rfl rfl hl.1 rfl (Nat.le_of_ble_eq_true rfl) dX6_let_146 ⟨Nat.zero_le _, Nat.zero_le _⟩ (fun u H locs hpo hP hD hS => ?_)
        have hP : va_P (dC, dI) vwCl [(a0, .inr (5, [.long mtr, .ref a1, .int (zI ty), .ref a2, .ref a3, .ref a4, .ref a5, .ref a6, .int (zI mat), .int (zI mst), .int (zI mso), .int (zI mva), .int (zI mfa), .ref a7, .ref a8, .ref a9, .int (zI ((zu cur 20 ((cur 20) + 1)) 18)), .ref a10, .int (zI rm), .ref a11, .ref a12, .int (zI tm), .ref a13, .ref a14, .ref a15, .ref a16, .int (zI tmy), .ref a17])), (a1, .inl (cB, 200, .inl (zA tx))), (a2, .inl (cI, 2, .inl (zA pa))), (a3, .inl (cI, 18, .inl (zA ms))), (a4, .inl (cI, 18, .inl (zA ml))), (a5, .inl (cI, 18, .inl (zA mr))), (a6, .inl (cI, 18, .inl (zA mt))), (a7, .inl (cI, 1143, .inl (zA ((zu cur 20 ((cur 20) + 1)))))), (a8, .inl (cZ, 2, .inl (zA ik))), (a9, .inl (cI, 9, .inl (zA ((zu cur 20 ((cur 20) + 1)))))), (a10, .inl (cI, 9, .inl (zA ra))), (a11, .inl (cI, 9, .inl (zA bg))), (a12, .inl (cI, 4, .inl (zA to))), (a13, .inl (cI, 200, .inl (zA cd))), (a14, .inl (cI, 9, .inl (zA fi))), (a15, .inl (cI, 9, .inl (zA tsz))), (a16, .inl (cI, 9, .inl (zA tcm))), (a17, .inl (cI, 10, .inl (zA mg)))] H := hP
        have hD : va_D A [(a0, .inr (5, [.long mtr, .ref a1, .int (zI ty), .ref a2, .ref a3, .ref a4, .ref a5, .ref a6, .int (zI mat), .int (zI mst), .int (zI mso), .int (zI mva), .int (zI mfa), .ref a7, .ref a8, .ref a9, .int (zI ((zu cur 20 ((cur 20) + 1)) 18)), .ref a10, .int (zI rm), .ref a11, .ref a12, .int (zI tm), .ref a13, .ref a14, .ref a15, .ref a16, .int (zI tmy), .ref a17])), (a1, .inl (cB, 200, .inl (zA tx))), (a2, .inl (cI, 2, .inl (zA pa))), (a3, .inl (cI, 18, .inl (zA ms))), (a4, .inl (cI, 18, .inl (zA ml))), (a5, .inl (cI, 18, .inl (zA mr))), (a6, .inl (cI, 18, .inl (zA mt))), (a7, .inl (cI, 1143, .inl (zA ((zu cur 20 ((cur 20) + 1)))))), (a8, .inl (cZ, 2, .inl (zA ik))), (a9, .inl (cI, 9, .inl (zA ((zu cur 20 ((cur 20) + 1)))))), (a10, .inl (cI, 9, .inl (zA ra))), (a11, .inl (cI, 9, .inl (zA bg))), (a12, .inl (cI, 4, .inl (zA to))), (a13, .inl (cI, 200, .inl (zA cd))), (a14, .inl (cI, 9, .inl (zA fi))), (a15, .inl (cI, 9, .inl (zA tsz))), (a16, .inl (cI, 9, .inl (zA tcm))), (a17, .inl (cI, 10, .inl (zA mg)))] := hD
        refine W.eq (g2 := F0 m 149 ls []) rfl ?_
        rw [show ((zu cur 20 ((cur 20) + 1)) 18) = nw 18 from by rw [hc]; exact n3_lo (by omega) (by omega)] at hP hD
        obtain ⟨hP, hD⟩ : va_P (dC, dI) vwCl [(a0, .inr (5, [.long mtr, .ref a1, .int (zI ty), .ref a2, .ref a3, .ref a4, .ref a5, .ref a6, .int (zI mat), .int (zI mst), .int (zI mso), .int (zI mva), .int (zI mfa), .ref a7, .ref a8, .ref a9, .int (zI (nw 18)), .ref a10, .int (zI rm), .ref a11, .ref a12, .int (zI tm), .ref a13, .ref a14, .ref a15, .ref a16, .int (zI tmy), .ref a17])), (a1, .inl (cB, 200, .inl (zA tx))), (a2, .inl (cI, 2, .inl (zA pa))), (a3, .inl (cI, 18, .inl (zA ms))), (a4, .inl (cI, 18, .inl (zA ml))), (a5, .inl (cI, 18, .inl (zA mr))), (a6, .inl (cI, 18, .inl (zA mt))), (a7, .inl (cI, 1143, .inl (zA ((zu cur 20 ((cur 20) + 1)))))), (a8, .inl (cZ, 2, .inl (zA ik))), (a9, .inl (cI, 9, .inl (zA nw))), (a10, .inl (cI, 9, .inl (zA ra))), (a11, .inl (cI, 9, .inl (zA bg))), (a12, .inl (cI, 4, .inl (zA to))), (a13, .inl (cI, 200, .inl (zA cd))), (a14, .inl (cI, 9, .inl (zA fi))), (a15, .inl (cI, 9, .inl (zA tsz))), (a16, .inl (cI, 9, .inl (zA tcm))), (a17, .inl (cI, 10, .inl (zA mg)))] H ∧ va_D A [(a0, .inr (5, [.long mtr, .ref a1, .int (zI ty), .ref a2, .ref a3, .ref a4, .ref a5, .ref a6, .int (zI mat), .int (zI mst), .int (zI mso), .int (zI mva), .int (zI mfa), .ref a7, .ref a8, .ref a9, .int (zI (nw 18)), .ref a10, .int (zI rm), .ref a11, .ref a12, .int (zI tm), .ref a13, .ref a14, .ref a15, .ref a16, .int (zI tmy), .ref a17])), (a1, .inl (cB, 200, .inl (zA tx))), (a2, .inl (cI, 2, .inl (zA pa))), (a3, .inl (cI, 18, .inl (zA ms))), (a4, .inl (cI, 18, .inl (zA ml))), (a5, .inl (cI, 18, .inl (zA mr))), (a6, .inl (cI, 18, .inl (zA mt))), (a7, .inl (cI, 1143, .inl (zA ((zu cur 20 ((cur 20) + 1)))))), (a8, .inl (cZ, 2, .inl (zA ik))), (a9, .inl (cI, 9, .inl (zA nw))), (a10, .inl (cI, 9, .inl (zA ra))), (a11, .inl (cI, 9, .inl (zA bg))), (a12, .inl (cI, 4, .inl (zA to))), (a13, .inl (cI, 200, .inl (zA cd))), (a14, .inl (cI, 9, .inl (zA fi))), (a15, .inl (cI, 9, .inl (zA tsz))), (a16, .inl (cI, 9, .inl (zA tcm))), (a17, .inl (cI, 10, .inl (zA mg)))] := zP_arr hP hD (q0 := 9) rfl (by intro j h0 h1; rw [hc]; exact n3_st (by omega) (by omega) h0 (by omega)) rfl
        refine lv_aload_n hx hb dX6_let_149 rfl (lv_at hl 0 rfl) ?_
        refine lv_iload_n hx hb dX6_let_150 rfl (lv_at hl 1 rfl) ?_
        refine zv_callWVa (As := [.int (zI sz)]) (rest := []) ⟨hx, hb, hml, hown, hts⟩ (c_X6_go l dC dI cI cB cZ a0 a1 a2 a3 a4 a5 a6 a7 a8 a9 a10 a11 a12 a13 a14 a15 a16 a17 mtr tx ty pa ms ml mr mt mat mst mso mva mfa (zu cur 20 ((cur 20) + 1)) ik nw (nw 18) ra rm bg to tm cd fi tsz tcm tmy mg sz (by exact hh) (by omega) (by exact hs) (by omega) (by omega)) (cwV 1 hts gX6_let_X6_go rfl rfl rfl (by decide +kernel) ⟨by rw [← hRM]; first | decide | (dsimp only; omega), by rw [← hRM]; first | decide | (dsimp only; omega)⟩) hP hD hS hA hK zN_bl (zN_go hE) (fun _ => rfl) (q0 := 0) rfl rfl rfl rfl hl.1 rfl (Nat.le_of_ble_eq_true rfl) dX6_let_151 ⟨Nat.zero_le _, Nat.zero_le _⟩ (fun u H locs hpo hP hD hS => ?_)
        obtain ⟨sd2_151, rfl⟩ : ∃ z, z = u := ⟨_, rfl⟩
        have hp0_151 : sd2_151 = (goS ms ml mr mt (nw 18) sz 9 nw (pa 0 - 1)).1 := hpo
        have hP : va_P (dC, dI) vwCl [(a0, .inr (5, [.long mtr, .ref a1, .int (zI ty), .ref a2, .ref a3, .ref a4, .ref a5, .ref a6, .int (zI mat), .int (zI mst), .int (zI mso), .int (zI mva), .int (zI mfa), .ref a7, .ref a8, .ref a9, .int (zI ((nw 18))), .ref a10, .int (zI rm), .ref a11, .ref a12, .int (zI tm), .ref a13, .ref a14, .ref a15, .ref a16, .int (zI tmy), .ref a17])), (a1, .inl (cB, 200, .inl (zA tx))), (a2, .inl (cI, 2, .inl (zA pa))), (a3, .inl (cI, 18, .inl (zA ms))), (a4, .inl (cI, 18, .inl (zA ml))), (a5, .inl (cI, 18, .inl (zA mr))), (a6, .inl (cI, 18, .inl (zA mt))), (a7, .inl (cI, 1143, .inl (zA ((zu cur 20 ((cur 20) + 1)))))), (a8, .inl (cZ, 2, .inl (zA ik))), (a9, .inl (cI, 9, .inl (zA sd2_151))), (a10, .inl (cI, 9, .inl (zA ra))), (a11, .inl (cI, 9, .inl (zA bg))), (a12, .inl (cI, 4, .inl (zA to))), (a13, .inl (cI, 200, .inl (zA cd))), (a14, .inl (cI, 9, .inl (zA fi))), (a15, .inl (cI, 9, .inl (zA tsz))), (a16, .inl (cI, 9, .inl (zA tcm))), (a17, .inl (cI, 10, .inl (zA mg)))] H := hP
        have hD : va_D A [(a0, .inr (5, [.long mtr, .ref a1, .int (zI ty), .ref a2, .ref a3, .ref a4, .ref a5, .ref a6, .int (zI mat), .int (zI mst), .int (zI mso), .int (zI mva), .int (zI mfa), .ref a7, .ref a8, .ref a9, .int (zI ((nw 18))), .ref a10, .int (zI rm), .ref a11, .ref a12, .int (zI tm), .ref a13, .ref a14, .ref a15, .ref a16, .int (zI tmy), .ref a17])), (a1, .inl (cB, 200, .inl (zA tx))), (a2, .inl (cI, 2, .inl (zA pa))), (a3, .inl (cI, 18, .inl (zA ms))), (a4, .inl (cI, 18, .inl (zA ml))), (a5, .inl (cI, 18, .inl (zA mr))), (a6, .inl (cI, 18, .inl (zA mt))), (a7, .inl (cI, 1143, .inl (zA ((zu cur 20 ((cur 20) + 1)))))), (a8, .inl (cZ, 2, .inl (zA ik))), (a9, .inl (cI, 9, .inl (zA sd2_151))), (a10, .inl (cI, 9, .inl (zA ra))), (a11, .inl (cI, 9, .inl (zA bg))), (a12, .inl (cI, 4, .inl (zA to))), (a13, .inl (cI, 200, .inl (zA cd))), (a14, .inl (cI, 9, .inl (zA fi))), (a15, .inl (cI, 9, .inl (zA tsz))), (a16, .inl (cI, 9, .inl (zA tcm))), (a17, .inl (cI, 10, .inl (zA mg)))] := hD
        refine W.eq (g2 := F0 m 154 ls [.int (zI ((goS ms ml mr mt (nw 18) sz 9 nw (pa 0 - 1)).2))]) rfl ?_
        subst hp0_151
        subst hc
        refine lv_istore_n (lv' := [(2, .int (zI ((goS ms ml mr mt (nw 18) sz 9 nw (pa 0 - 1)).2))), (0, .ref a0), (1, .int (zI sz))]) hx hb dX6_let_154 rfl hl (by decide) rfl (fun ls hl => ?_)
        refine zv_iconst hx hb dX6_let_155 ?_
        refine lv_istore_n (lv' := [(3, .int (zI 0)), (2, .int (zI ((goS ms ml mr mt (nw 18) sz 9 nw (pa 0 - 1)).2))), (0, .ref a0), (1, .int (zI sz))]) hx hb dX6_let_156 rfl hl (by decide) rfl (fun ls hl => ?_)
        exact cut157 _ 0 (zu (rwS (21 + 18 * letA nw 20) (letA nw) 18) 20 (((rwS (21 + 18 * letA nw 20) (letA nw) 18) 20) + 1)) (Nat.lt_succ_self _) (by omega) (by exact stc_0.symm) _ _ hP hD hS _ (lv_sub hl [2, 1, 0] rfl)
      · refine lv_aload_n hx hb dX6_let_102 rfl (lv_at hl 0 rfl) ?_
        refine va_get (D := (dC, dI)) (ci := 5) (v := .ref a7) (C := RX6) (T := TX6) (N := 28) hx hb hts in_X6 hown hK hP 0 rfl rfl 13 (by decide) w_0 (fun _ h9 => h9) rfl dX6_let_103 ?_
        refine zv_bipush hx hb dX6_let_106 (by decide +kernel) ?_
        refine zv_bipush hx hb dX6_let_108 (by decide +kernel) ?_
        refine lv_aload_n hx hb dX6_let_110 rfl (lv_at hl 0 rfl) ?_
        refine va_get (D := (dC, dI)) (ci := 5) (v := .ref a7) (C := RX6) (T := TX6) (N := 28) hx hb hts in_X6 hown hK hP 0 rfl rfl 13 (by decide) w_0 (fun _ h9 => h9) rfl dX6_let_111 ?_
        refine zv_bipush hx hb dX6_let_114 (by decide +kernel) ?_
        refine zv_iald hx hb hK hP 7 0 rfl rfl (by omega) dX6_let_116 ?_
        refine zv_imul hx hb dX6_let_117 ?_
        refine zv_iadd hx hb dX6_let_118 ?_
        refine lv_iload_n hx hb dX6_let_119 rfl (lv_at hl 2 rfl) ?_
        refine zv_iadd hx hb dX6_let_120 ?_
        refine lv_aload_n hx hb dX6_let_121 rfl (lv_at hl 0 rfl) ?_
        refine va_get (D := (dC, dI)) (ci := 5) (v := .ref a7) (C := RX6) (T := TX6) (N := 28) hx hb hts in_X6 hown hK hP 0 rfl rfl 13 (by decide) w_0 (fun _ h9 => h9) rfl dX6_let_122 ?_
        refine lv_iload_n hx hb dX6_let_125 rfl (lv_at hl 2 rfl) ?_
        refine zv_iald hx hb hK hP 7 0 rfl rfl (by omega) dX6_let_126 ?_
        refine zv_iast (ws' := [(a0, .inr (5, [.long mtr, .ref a1, .int (zI ty), .ref a2, .ref a3, .ref a4, .ref a5, .ref a6, .int (zI mat), .int (zI mst), .int (zI mso), .int (zI mva), .int (zI mfa), .ref a7, .ref a8, .ref a9, .int (zI mlo), .ref a10, .int (zI rm), .ref a11, .ref a12, .int (zI tm), .ref a13, .ref a14, .ref a15, .ref a16, .int (zI tmy), .ref a17])), (a1, .inl (cB, 200, .inl (zA tx))), (a2, .inl (cI, 2, .inl (zA pa))), (a3, .inl (cI, 18, .inl (zA ms))), (a4, .inl (cI, 18, .inl (zA ml))), (a5, .inl (cI, 18, .inl (zA mr))), (a6, .inl (cI, 18, .inl (zA mt))), (a7, .inl (cI, 1143, .inl (zA (zu cur ((21 + (18 * (cur 20))) + k) (cur k))))), (a8, .inl (cZ, 2, .inl (zA ik))), (a9, .inl (cI, 9, .inl (zA sd))), (a10, .inl (cI, 9, .inl (zA ra))), (a11, .inl (cI, 9, .inl (zA bg))), (a12, .inl (cI, 4, .inl (zA to))), (a13, .inl (cI, 200, .inl (zA cd))), (a14, .inl (cI, 9, .inl (zA fi))), (a15, .inl (cI, 9, .inl (zA tsz))), (a16, .inl (cI, 9, .inl (zA tcm))), (a17, .inl (cI, 10, .inl (zA mg)))]) hx hb hK hP hD hS 7 0 rfl rfl (by omega) rfl dX6_let_127 (fun H locs hP hD hS => ?_)
        refine zv_iinc (k := 2) (a := k) (n := 1) (lv' := [(2, .int (zI (k + 1))), (0, .ref a0), (1, .int (zI sz))]) hx hb dX6_let_128 hl rfl (by decide) rfl (fun ls hl => ?_)
        refine lv_goto (tgt := 96) hx hb dX6_let_131 (by decide) ?_
        exact ih96 (k + 1) (zu cur ((21 + (18 * (cur 20))) + k) (cur k)) (by omega) (by omega) (by rw [c20, hc]; exact rwS_s (by omega) (by omega)) _ _ hP hD hS _ (lv_sub hl [1, 2, 0] rfl)
  have cut94 : ∀ (cur : Int → Int),  (cur = letA nw) → ∀ (H : Heap) (locs : List Loc), va_P (dC, dI) vwCl [(a0, .inr (5, [.long mtr, .ref a1, .int (zI ty), .ref a2, .ref a3, .ref a4, .ref a5, .ref a6, .int (zI mat), .int (zI mst), .int (zI mso), .int (zI mva), .int (zI mfa), .ref a7, .ref a8, .ref a9, .int (zI mlo), .ref a10, .int (zI rm), .ref a11, .ref a12, .int (zI tm), .ref a13, .ref a14, .ref a15, .ref a16, .int (zI tmy), .ref a17])), (a1, .inl (cB, 200, .inl (zA tx))), (a2, .inl (cI, 2, .inl (zA pa))), (a3, .inl (cI, 18, .inl (zA ms))), (a4, .inl (cI, 18, .inl (zA ml))), (a5, .inl (cI, 18, .inl (zA mr))), (a6, .inl (cI, 18, .inl (zA mt))), (a7, .inl (cI, 1143, .inl (zA cur))), (a8, .inl (cZ, 2, .inl (zA ik))), (a9, .inl (cI, 9, .inl (zA sd))), (a10, .inl (cI, 9, .inl (zA ra))), (a11, .inl (cI, 9, .inl (zA bg))), (a12, .inl (cI, 4, .inl (zA to))), (a13, .inl (cI, 200, .inl (zA cd))), (a14, .inl (cI, 9, .inl (zA fi))), (a15, .inl (cI, 9, .inl (zA tsz))), (a16, .inl (cI, 9, .inl (zA tcm))), (a17, .inl (cI, 10, .inl (zA mg)))] H → va_D A [(a0, .inr (5, [.long mtr, .ref a1, .int (zI ty), .ref a2, .ref a3, .ref a4, .ref a5, .ref a6, .int (zI mat), .int (zI mst), .int (zI mso), .int (zI mva), .int (zI mfa), .ref a7, .ref a8, .ref a9, .int (zI mlo), .ref a10, .int (zI rm), .ref a11, .ref a12, .int (zI tm), .ref a13, .ref a14, .ref a15, .ref a16, .int (zI tmy), .ref a17])), (a1, .inl (cB, 200, .inl (zA tx))), (a2, .inl (cI, 2, .inl (zA pa))), (a3, .inl (cI, 18, .inl (zA ms))), (a4, .inl (cI, 18, .inl (zA ml))), (a5, .inl (cI, 18, .inl (zA mr))), (a6, .inl (cI, 18, .inl (zA mt))), (a7, .inl (cI, 1143, .inl (zA cur))), (a8, .inl (cZ, 2, .inl (zA ik))), (a9, .inl (cI, 9, .inl (zA sd))), (a10, .inl (cI, 9, .inl (zA ra))), (a11, .inl (cI, 9, .inl (zA bg))), (a12, .inl (cI, 4, .inl (zA to))), (a13, .inl (cI, 200, .inl (zA cd))), (a14, .inl (cI, 9, .inl (zA fi))), (a15, .inl (cI, 9, .inl (zA tsz))), (a16, .inl (cI, 9, .inl (zA tcm))), (a17, .inl (cI, 10, .inl (zA mg)))] → va_S A s.heap H locs → ∀ ls : Array Slot, lv_has ls 4 [(0, .ref a0), (1, .int (zI sz))] → W p l e RM s m args below meth c H locs 0 0 QQ (F0 m 94 ls []) := by
    intro cur hc H locs hP hD hS ls hl
    refine zv_iconst hx hb dX6_let_94 ?_
    refine lv_istore_n (lv' := [(2, .int (zI 0)), (0, .ref a0), (1, .int (zI sz))]) hx hb dX6_let_95 rfl hl (by decide) rfl (fun ls hl => ?_)
    exact cut96 _ 0 cur (Nat.lt_succ_self _) (by omega) (by rw [hc]; exact rwS_0.symm) _ _ hP hD hS _ (lv_sub hl [1, 2, 0] rfl)
  have cut52 : ∀ (nM : Nat) (k : Int) (cur : Int → Int),  ((342 - k).toNat) < nM → (0 ≤ k ∧ k ≤ 342) → (nw 20 = 20) → (cur = shf nw k) → ∀ (H : Heap) (locs : List Loc), va_P (dC, dI) vwCl [(a0, .inr (5, [.long mtr, .ref a1, .int (zI ty), .ref a2, .ref a3, .ref a4, .ref a5, .ref a6, .int (zI mat), .int (zI mst), .int (zI mso), .int (zI mva), .int (zI mfa), .ref a7, .ref a8, .ref a9, .int (zI mlo), .ref a10, .int (zI rm), .ref a11, .ref a12, .int (zI tm), .ref a13, .ref a14, .ref a15, .ref a16, .int (zI tmy), .ref a17])), (a1, .inl (cB, 200, .inl (zA tx))), (a2, .inl (cI, 2, .inl (zA pa))), (a3, .inl (cI, 18, .inl (zA ms))), (a4, .inl (cI, 18, .inl (zA ml))), (a5, .inl (cI, 18, .inl (zA mr))), (a6, .inl (cI, 18, .inl (zA mt))), (a7, .inl (cI, 1143, .inl (zA cur))), (a8, .inl (cZ, 2, .inl (zA ik))), (a9, .inl (cI, 9, .inl (zA sd))), (a10, .inl (cI, 9, .inl (zA ra))), (a11, .inl (cI, 9, .inl (zA bg))), (a12, .inl (cI, 4, .inl (zA to))), (a13, .inl (cI, 200, .inl (zA cd))), (a14, .inl (cI, 9, .inl (zA fi))), (a15, .inl (cI, 9, .inl (zA tsz))), (a16, .inl (cI, 9, .inl (zA tcm))), (a17, .inl (cI, 10, .inl (zA mg)))] H → va_D A [(a0, .inr (5, [.long mtr, .ref a1, .int (zI ty), .ref a2, .ref a3, .ref a4, .ref a5, .ref a6, .int (zI mat), .int (zI mst), .int (zI mso), .int (zI mva), .int (zI mfa), .ref a7, .ref a8, .ref a9, .int (zI mlo), .ref a10, .int (zI rm), .ref a11, .ref a12, .int (zI tm), .ref a13, .ref a14, .ref a15, .ref a16, .int (zI tmy), .ref a17])), (a1, .inl (cB, 200, .inl (zA tx))), (a2, .inl (cI, 2, .inl (zA pa))), (a3, .inl (cI, 18, .inl (zA ms))), (a4, .inl (cI, 18, .inl (zA ml))), (a5, .inl (cI, 18, .inl (zA mr))), (a6, .inl (cI, 18, .inl (zA mt))), (a7, .inl (cI, 1143, .inl (zA cur))), (a8, .inl (cZ, 2, .inl (zA ik))), (a9, .inl (cI, 9, .inl (zA sd))), (a10, .inl (cI, 9, .inl (zA ra))), (a11, .inl (cI, 9, .inl (zA bg))), (a12, .inl (cI, 4, .inl (zA to))), (a13, .inl (cI, 200, .inl (zA cd))), (a14, .inl (cI, 9, .inl (zA fi))), (a15, .inl (cI, 9, .inl (zA tsz))), (a16, .inl (cI, 9, .inl (zA tcm))), (a17, .inl (cI, 10, .inl (zA mg)))] → va_S A s.heap H locs → ∀ ls : Array Slot, lv_has ls 4 [(0, .ref a0), (1, .int (zI sz)), (2, .int (zI k))] → W p l e RM s m args below meth c H locs 0 0 QQ (F0 m 52 ls []) := by
    intro nM
    induction nM with
    | zero => intro k cur hmu; exact absurd hmu (Nat.not_lt_zero _)
    | succ nM ih52 =>
      intro k cur hmu hk h20 hc H locs hP hD hS ls hl
      refine lv_iload_n hx hb dX6_let_52 rfl (lv_at hl 2 rfl) ?_
      refine zv_sipush hx hb dX6_let_53 (by decide +kernel) ?_
      refine zv_icmp_ge (tgt := 83) hx hb (by omega) (by omega) dX6_let_56 (by decide) (fun c_56 => ?_) (fun c_56 => ?_)
      · refine lv_aload_n hx hb dX6_let_83 rfl (lv_at hl 0 rfl) ?_
        refine va_get (D := (dC, dI)) (ci := 5) (v := .ref a7) (C := RX6) (T := TX6) (N := 28) hx hb hts in_X6 hown hK hP 0 rfl rfl 13 (by decide) w_0 (fun _ h9 => h9) rfl dX6_let_84 ?_
        refine zv_bipush hx hb dX6_let_87 (by decide +kernel) ?_
        refine lv_dup2_11 hx hb dX6_let_89 rfl rfl ?_
        refine zv_iald hx hb hK hP 7 0 rfl rfl (by omega) dX6_let_90 ?_
        refine zv_iconst hx hb dX6_let_91 ?_
        refine zv_isub hx hb dX6_let_92 ?_
        refine zv_iast (ws' := [(a0, .inr (5, [.long mtr, .ref a1, .int (zI ty), .ref a2, .ref a3, .ref a4, .ref a5, .ref a6, .int (zI mat), .int (zI mst), .int (zI mso), .int (zI mva), .int (zI mfa), .ref a7, .ref a8, .ref a9, .int (zI mlo), .ref a10, .int (zI rm), .ref a11, .ref a12, .int (zI tm), .ref a13, .ref a14, .ref a15, .ref a16, .int (zI tmy), .ref a17])), (a1, .inl (cB, 200, .inl (zA tx))), (a2, .inl (cI, 2, .inl (zA pa))), (a3, .inl (cI, 18, .inl (zA ms))), (a4, .inl (cI, 18, .inl (zA ml))), (a5, .inl (cI, 18, .inl (zA mr))), (a6, .inl (cI, 18, .inl (zA mt))), (a7, .inl (cI, 1143, .inl (zA (zu cur 20 ((cur 20) - 1))))), (a8, .inl (cZ, 2, .inl (zA ik))), (a9, .inl (cI, 9, .inl (zA sd))), (a10, .inl (cI, 9, .inl (zA ra))), (a11, .inl (cI, 9, .inl (zA bg))), (a12, .inl (cI, 4, .inl (zA to))), (a13, .inl (cI, 200, .inl (zA cd))), (a14, .inl (cI, 9, .inl (zA fi))), (a15, .inl (cI, 9, .inl (zA tsz))), (a16, .inl (cI, 9, .inl (zA tcm))), (a17, .inl (cI, 10, .inl (zA mg)))]) hx hb hK hP hD hS 7 0 rfl rfl (by omega) rfl dX6_let_93 (fun H locs hP hD hS => ?_)
        exact cut94 (zu cur 20 ((cur 20) - 1))  (by rw [hc, show k = 342 by omega]; exact (if_pos h20).symm) _ _ hP hD hS _ (lv_sub hl [0, 1] rfl)
      · refine lv_aload_n hx hb dX6_let_59 rfl (lv_at hl 0 rfl) ?_
        refine va_get (D := (dC, dI)) (ci := 5) (v := .ref a7) (C := RX6) (T := TX6) (N := 28) hx hb hts in_X6 hown hK hP 0 rfl rfl 13 (by decide) w_0 (fun _ h9 => h9) rfl dX6_let_60 ?_
        refine zv_bipush hx hb dX6_let_63 (by decide +kernel) ?_
        refine lv_iload_n hx hb dX6_let_65 rfl (lv_at hl 2 rfl) ?_
        refine zv_iadd hx hb dX6_let_66 ?_
        refine lv_aload_n hx hb dX6_let_67 rfl (lv_at hl 0 rfl) ?_
        refine va_get (D := (dC, dI)) (ci := 5) (v := .ref a7) (C := RX6) (T := TX6) (N := 28) hx hb hts in_X6 hown hK hP 0 rfl rfl 13 (by decide) w_0 (fun _ h9 => h9) rfl dX6_let_68 ?_
        refine zv_bipush hx hb dX6_let_71 (by decide +kernel) ?_
        refine lv_iload_n hx hb dX6_let_73 rfl (lv_at hl 2 rfl) ?_
        refine zv_iadd hx hb dX6_let_74 ?_
        refine zv_iald hx hb hK hP 7 0 rfl rfl (by omega) dX6_let_75 ?_
        refine zv_iast (ws' := [(a0, .inr (5, [.long mtr, .ref a1, .int (zI ty), .ref a2, .ref a3, .ref a4, .ref a5, .ref a6, .int (zI mat), .int (zI mst), .int (zI mso), .int (zI mva), .int (zI mfa), .ref a7, .ref a8, .ref a9, .int (zI mlo), .ref a10, .int (zI rm), .ref a11, .ref a12, .int (zI tm), .ref a13, .ref a14, .ref a15, .ref a16, .int (zI tmy), .ref a17])), (a1, .inl (cB, 200, .inl (zA tx))), (a2, .inl (cI, 2, .inl (zA pa))), (a3, .inl (cI, 18, .inl (zA ms))), (a4, .inl (cI, 18, .inl (zA ml))), (a5, .inl (cI, 18, .inl (zA mr))), (a6, .inl (cI, 18, .inl (zA mt))), (a7, .inl (cI, 1143, .inl (zA (zu cur (21 + k) (cur (39 + k)))))), (a8, .inl (cZ, 2, .inl (zA ik))), (a9, .inl (cI, 9, .inl (zA sd))), (a10, .inl (cI, 9, .inl (zA ra))), (a11, .inl (cI, 9, .inl (zA bg))), (a12, .inl (cI, 4, .inl (zA to))), (a13, .inl (cI, 200, .inl (zA cd))), (a14, .inl (cI, 9, .inl (zA fi))), (a15, .inl (cI, 9, .inl (zA tsz))), (a16, .inl (cI, 9, .inl (zA tcm))), (a17, .inl (cI, 10, .inl (zA mg)))]) hx hb hK hP hD hS 7 0 rfl rfl (by omega) rfl dX6_let_76 (fun H locs hP hD hS => ?_)
        refine zv_iinc (k := 2) (a := k) (n := 1) (lv' := [(2, .int (zI (k + 1))), (0, .ref a0), (1, .int (zI sz))]) hx hb dX6_let_77 hl rfl (by decide) rfl (fun ls hl => ?_)
        refine lv_goto (tgt := 52) hx hb dX6_let_80 (by decide) ?_
        exact ih52 (k + 1) (zu cur (21 + k) (cur (39 + k))) (by omega) (by omega) (by omega) (by rw [hc]; exact shf_s (by omega)) _ _ hP hD hS _ (lv_sub hl [1, 2, 0] rfl)
  refine lv_iload_n hx hb dX6_let_0 rfl (lv_at hl 1 rfl) ?_
  refine zv_iconst hx hb dX6_let_1 ?_
  refine zv_iconst hx hb dX6_let_2 ?_
  refine zv_callRS (As := [.int (zI sz), .int (zI 0), .int (zI 1)]) (rest := []) ⟨hx, hb, hml, hown, hts⟩ (c_X6_in l dC dI cI cB cZ sz 0 1 (by omega) (by omega) (by omega)) (va_cwS 3 hts gX6_let_X6_in rfl rfl rfl (by decide +kernel) ⟨by rw [← hRM]; first | decide | (dsimp only; omega), by rw [← hRM]; first | decide | (dsimp only; omega)⟩) hP hK [] rfl [0, 1, 2] rfl zN_bl (zN_go hE) rfl hl.1 rfl (Nat.le_of_ble_eq_true rfl) dX6_let_3 ⟨Nat.zero_le _, Nat.zero_le _⟩ ?_
  refine zv_ifne_b (tgt := 11) hx hb dX6_let_6 (by decide) (fun c_6 => ?_) (fun c_6 => ?_)
  · refine lv_aload_n hx hb dX6_let_11 rfl (lv_at hl 0 rfl) ?_
    refine va_get (D := (dC, dI)) (ci := 5) (v := .ref a2) (C := RX6) (T := TX6) (N := 28) hx hb hts in_X6 hown hK hP 0 rfl rfl 3 (by decide) w_2 (fun _ h9 => h9) rfl dX6_let_12 ?_
    refine zv_iconst hx hb dX6_let_15 ?_
    refine zv_iald hx hb hK hP 2 0 rfl rfl (by omega) dX6_let_16 ?_
    refine zv_if_ne (tgt := 23) hx hb (by omega) dX6_let_17 (by decide) (fun c_17 => ?_) (fun c_17 => ?_)
    · refine lv_aload_n hx hb dX6_let_23 rfl (lv_at hl 0 rfl) ?_
      refine va_get (D := (dC, dI)) (ci := 5) (v := .ref a7) (C := RX6) (T := TX6) (N := 28) hx hb hts in_X6 hown hK hP 0 rfl rfl 13 (by decide) w_0 (fun _ h9 => h9) rfl dX6_let_24 ?_
      refine zv_bipush hx hb dX6_let_27 (by decide +kernel) ?_
      refine zv_iald hx hb hK hP 7 0 rfl rfl (by omega) dX6_let_29 ?_
      refine zv_bipush hx hb dX6_let_30 (by decide +kernel) ?_
      refine zv_icmp_ne (tgt := 38) hx hb (by omega) (by omega) dX6_let_32 (by decide) (fun c_32 => ?_) (fun c_32 => ?_)
      · refine lv_aload_n hx hb dX6_let_38 rfl (lv_at hl 0 rfl) ?_
        refine va_get (D := (dC, dI)) (ci := 5) (v := .ref a7) (C := RX6) (T := TX6) (N := 28) hx hb hts in_X6 hown hK hP 0 rfl rfl 13 (by decide) w_0 (fun _ h9 => h9) rfl dX6_let_39 ?_
        refine zv_bipush hx hb dX6_let_42 (by decide +kernel) ?_
        refine zv_iald hx hb hK hP 7 0 rfl rfl (by omega) dX6_let_44 ?_
        refine zv_bipush hx hb dX6_let_45 (by decide +kernel) ?_
        refine zv_icmp_ne (tgt := 94) hx hb (by omega) (by omega) dX6_let_47 (by decide) (fun c_47 => ?_) (fun c_47 => ?_)
        · exact cut94 nw  (by exact (if_neg c_47).symm) _ _ hP hD hS _ (lv_sub hl [0, 1] rfl)
        · refine zv_iconst hx hb dX6_let_50 ?_
          refine lv_istore_n (lv' := [(2, .int (zI 0)), (0, .ref a0), (1, .int (zI sz))]) hx hb dX6_let_51 rfl hl (by decide) rfl (fun ls hl => ?_)
          exact cut52 _ 0 nw (Nat.lt_succ_self _) (by omega) (by exact c_47) (by exact shf_0.symm) _ _ hP hD hS _ (lv_sub hl [1, 2, 0] rfl)
      · exfalso; omega
    · exfalso; omega
  · exfalso; omega
set_option maxHeartbeats 4000000 in
set_option maxRecDepth 100000 in
theorem c_X6_undoN (l : Launch) (dC : Nat → ClassId) (dI : Nat → Nat → Nat) (cI cB cZ : ClassId) (a0 : Nat) (a1 : Nat) (a2 : Nat) (a3 : Nat) (a4 : Nat) (a5 : Nat) (a6 : Nat) (a7 : Nat) (a8 : Nat) (a9 : Nat) (a10 : Nat) (a11 : Nat) (a12 : Nat) (a13 : Nat) (a14 : Nat) (a15 : Nat) (a16 : Nat) (a17 : Nat) (mtr : Int64) (tx : Int → Int) (ty : Int) (pa : Int → Int) (ms : Int → Int) (ml : Int → Int) (mr : Int → Int) (mt : Int → Int) (mat : Int) (mst : Int) (mso : Int) (mva : Int) (mfa : Int) (nw : Int → Int) (ik : Int → Int) (sd : Int → Int) (mlo : Int) (ra : Int → Int) (rm : Int) (bg : Int → Int) (to : Int → Int) (tm : Int) (cd : Int → Int) (fi : Int → Int) (tsz : Int → Int) (tcm : Int → Int) (tmy : Int) (mg : Int → Int) (hkn : 0 ≤ nw 20 ∧ nw 20 ≤ 20) (hno : nw 20 < 1) : MetR l yX6_undo wsX6_undo ({ frames := 0, cells := 0, slots := 0, locals := 0 }) (dC, dI) vwCl (zT cI cB cZ) zN [(a0, .inr (5, [.long mtr, .ref a1, .int (zI ty), .ref a2, .ref a3, .ref a4, .ref a5, .ref a6, .int (zI mat), .int (zI mst), .int (zI mso), .int (zI mva), .int (zI mfa), .ref a7, .ref a8, .ref a9, .int (zI mlo), .ref a10, .int (zI rm), .ref a11, .ref a12, .int (zI tm), .ref a13, .ref a14, .ref a15, .ref a16, .int (zI tmy), .ref a17])), (a1, .inl (cB, 200, .inl (zA tx))), (a2, .inl (cI, 2, .inl (zA pa))), (a3, .inl (cI, 18, .inl (zA ms))), (a4, .inl (cI, 18, .inl (zA ml))), (a5, .inl (cI, 18, .inl (zA mr))), (a6, .inl (cI, 18, .inl (zA mt))), (a7, .inl (cI, 1143, .inl (zA nw))), (a8, .inl (cZ, 2, .inl (zA ik))), (a9, .inl (cI, 9, .inl (zA sd))), (a10, .inl (cI, 9, .inl (zA ra))), (a11, .inl (cI, 9, .inl (zA bg))), (a12, .inl (cI, 4, .inl (zA to))), (a13, .inl (cI, 200, .inl (zA cd))), (a14, .inl (cI, 9, .inl (zA fi))), (a15, .inl (cI, 9, .inl (zA tsz))), (a16, .inl (cI, 9, .inl (zA tcm))), (a17, .inl (cI, 10, .inl (zA mg)))] [.ref a0] (zI (-2)) := by
  refine MetR.intro (cc := cX6_undo) (maxL := 2) (ret := (some .int)) (by decide) rfl (Nat.le_of_ble_eq_true rfl) ?_
  intro p e s m args below meth c hx hb hr hlocks hml hts hown hP hK hE ls hl
  have hown : s.vm.findClass RX6 = some m.cls := hown
  have hl : lv_has ls 2 [(0, .ref a0)] := hl
  generalize hRM : ({ frames := 0, cells := 0, slots := 0, locals := 0 } : Room) = RM
  generalize hQQ : MQ below (vp_Si (fun r => r = zI (-2))) args s 0 0 (fun _ => False) = QQ
  have in_X6 : ∀ w ∈ wsX60, w ∈ wsX6_undo := by decide +kernel
  have w_0 := hts (.fieldLink RX6 29 "WallMarblesModel" "now" "[I") (by decide +kernel)
  refine lv_aload_n hx hb dX6_undo_0 rfl (lv_at hl 0 rfl) ?_
  refine va_get (D := (dC, dI)) (ci := 5) (v := .ref a7) (C := RX6) (T := TX6) (N := 28) hx hb hts in_X6 hown hK hP 0 rfl rfl 13 (by decide) w_0 (fun _ h9 => h9) rfl dX6_undo_1 ?_
  refine zv_bipush hx hb dX6_undo_4 (by decide +kernel) ?_
  refine zv_iald hx hb hK hP 7 0 rfl rfl (by omega) dX6_undo_6 ?_
  refine zv_if_ne (tgt := 13) hx hb (by omega) dX6_undo_7 (by decide) (fun c_7 => ?_) (fun c_7 => ?_)
  · exfalso; omega
  · refine zv_bipush hx hb dX6_undo_10 (by decide +kernel) ?_
    rw [← hQQ]
    exact zr_iret hx hb hr hlocks (congrArg zI (show (-2) = -2 from by first | rfl | omega | exact (bZ_t (by omega)).symm | exact (bZ_f (by omega)).symm)) dX6_undo_12
set_option maxHeartbeats 4000000 in
set_option maxRecDepth 100000 in
theorem c_X6_undoY (l : Launch) (dC : Nat → ClassId) (dI : Nat → Nat → Nat) (cI cB cZ : ClassId) (a0 : Nat) (a1 : Nat) (a2 : Nat) (a3 : Nat) (a4 : Nat) (a5 : Nat) (a6 : Nat) (a7 : Nat) (a8 : Nat) (a9 : Nat) (a10 : Nat) (a11 : Nat) (a12 : Nat) (a13 : Nat) (a14 : Nat) (a15 : Nat) (a16 : Nat) (a17 : Nat) (mtr : Int64) (tx : Int → Int) (ty : Int) (pa : Int → Int) (ms : Int → Int) (ml : Int → Int) (mr : Int → Int) (mt : Int → Int) (mat : Int) (mst : Int) (mso : Int) (mva : Int) (mfa : Int) (nw : Int → Int) (ik : Int → Int) (sd : Int → Int) (mlo : Int) (ra : Int → Int) (rm : Int) (bg : Int → Int) (to : Int → Int) (tm : Int) (cd : Int → Int) (fi : Int → Int) (tsz : Int → Int) (tcm : Int → Int) (tmy : Int) (mg : Int → Int) (hkn : 1 ≤ nw 20 ∧ nw 20 ≤ 20) : MetW (S := (Int → Int)) l yX6_undo wsX6_undo ({ frames := 0, cells := 0, slots := 0, locals := 0 }) (dC, dI) vwCl (zT cI cB cZ) zN [(a0, .inr (5, [.long mtr, .ref a1, .int (zI ty), .ref a2, .ref a3, .ref a4, .ref a5, .ref a6, .int (zI mat), .int (zI mst), .int (zI mso), .int (zI mva), .int (zI mfa), .ref a7, .ref a8, .ref a9, .int (zI mlo), .ref a10, .int (zI rm), .ref a11, .ref a12, .int (zI tm), .ref a13, .ref a14, .ref a15, .ref a16, .int (zI tmy), .ref a17])), (a1, .inl (cB, 200, .inl (zA tx))), (a2, .inl (cI, 2, .inl (zA pa))), (a3, .inl (cI, 18, .inl (zA ms))), (a4, .inl (cI, 18, .inl (zA ml))), (a5, .inl (cI, 18, .inl (zA mr))), (a6, .inl (cI, 18, .inl (zA mt))), (a7, .inl (cI, 1143, .inl (zA nw))), (a8, .inl (cZ, 2, .inl (zA ik))), (a9, .inl (cI, 9, .inl (zA sd))), (a10, .inl (cI, 9, .inl (zA ra))), (a11, .inl (cI, 9, .inl (zA bg))), (a12, .inl (cI, 4, .inl (zA to))), (a13, .inl (cI, 200, .inl (zA cd))), (a14, .inl (cI, 9, .inl (zA fi))), (a15, .inl (cI, 9, .inl (zA tsz))), (a16, .inl (cI, 9, .inl (zA tcm))), (a17, .inl (cI, 10, .inl (zA mg)))] [.ref a0] (fun u => some (.int (zI (nw 19 - 1)))) (fun u => [(a0, .inr (5, [.long mtr, .ref a1, .int (zI ty), .ref a2, .ref a3, .ref a4, .ref a5, .ref a6, .int (zI mat), .int (zI mst), .int (zI mso), .int (zI mva), .int (zI mfa), .ref a7, .ref a8, .ref a9, .int (zI mlo), .ref a10, .int (zI rm), .ref a11, .ref a12, .int (zI tm), .ref a13, .ref a14, .ref a15, .ref a16, .int (zI tmy), .ref a17])), (a1, .inl (cB, 200, .inl (zA tx))), (a2, .inl (cI, 2, .inl (zA pa))), (a3, .inl (cI, 18, .inl (zA ms))), (a4, .inl (cI, 18, .inl (zA ml))), (a5, .inl (cI, 18, .inl (zA mr))), (a6, .inl (cI, 18, .inl (zA mt))), (a7, .inl (cI, 1143, .inl (zA u))), (a8, .inl (cZ, 2, .inl (zA ik))), (a9, .inl (cI, 9, .inl (zA sd))), (a10, .inl (cI, 9, .inl (zA ra))), (a11, .inl (cI, 9, .inl (zA bg))), (a12, .inl (cI, 4, .inl (zA to))), (a13, .inl (cI, 200, .inl (zA cd))), (a14, .inl (cI, 9, .inl (zA fi))), (a15, .inl (cI, 9, .inl (zA tsz))), (a16, .inl (cI, 9, .inl (zA tcm))), (a17, .inl (cI, 10, .inl (zA mg)))]) (fun u => (u = undN nw)) := by
  refine MetW.intro (cc := cX6_undo) (maxL := 2) (ret := (some .int)) (by decide) rfl (Nat.le_of_ble_eq_true rfl) ?_
  intro p e s m args below meth c A hx hb hr hlocks hml hts hown hP hK hD hS hA hE ls hl
  have hown : s.vm.findClass RX6 = some m.cls := hown
  have hl : lv_has ls 2 [(0, .ref a0)] := hl
  generalize hRM : ({ frames := 0, cells := 0, slots := 0, locals := 0 } : Room) = RM
  generalize hQQ : MQ below (QW (S := (Int → Int)) (dC, dI) vwCl A (fun u => some (.int (zI (nw 19 - 1)))) (fun u => [(a0, .inr (5, [.long mtr, .ref a1, .int (zI ty), .ref a2, .ref a3, .ref a4, .ref a5, .ref a6, .int (zI mat), .int (zI mst), .int (zI mso), .int (zI mva), .int (zI mfa), .ref a7, .ref a8, .ref a9, .int (zI mlo), .ref a10, .int (zI rm), .ref a11, .ref a12, .int (zI tm), .ref a13, .ref a14, .ref a15, .ref a16, .int (zI tmy), .ref a17])), (a1, .inl (cB, 200, .inl (zA tx))), (a2, .inl (cI, 2, .inl (zA pa))), (a3, .inl (cI, 18, .inl (zA ms))), (a4, .inl (cI, 18, .inl (zA ml))), (a5, .inl (cI, 18, .inl (zA mr))), (a6, .inl (cI, 18, .inl (zA mt))), (a7, .inl (cI, 1143, .inl (zA u))), (a8, .inl (cZ, 2, .inl (zA ik))), (a9, .inl (cI, 9, .inl (zA sd))), (a10, .inl (cI, 9, .inl (zA ra))), (a11, .inl (cI, 9, .inl (zA bg))), (a12, .inl (cI, 4, .inl (zA to))), (a13, .inl (cI, 200, .inl (zA cd))), (a14, .inl (cI, 9, .inl (zA fi))), (a15, .inl (cI, 9, .inl (zA tsz))), (a16, .inl (cI, 9, .inl (zA tcm))), (a17, .inl (cI, 10, .inl (zA mg)))]) (fun u => (u = undN nw))) args s 0 0 A = QQ
  have in_X6 : ∀ w ∈ wsX60, w ∈ wsX6_undo := by decide +kernel
  have w_0 := hts (.fieldLink RX6 29 "WallMarblesModel" "now" "[I") (by decide +kernel)
  have cut26 : ∀ (nM : Nat) (k : Int) (cur : Int → Int),  ((18 - k).toNat) < nM → (0 ≤ k ∧ k ≤ 18) → (cur = unS nw k) → ∀ (H : Heap) (locs : List Loc), va_P (dC, dI) vwCl [(a0, .inr (5, [.long mtr, .ref a1, .int (zI ty), .ref a2, .ref a3, .ref a4, .ref a5, .ref a6, .int (zI mat), .int (zI mst), .int (zI mso), .int (zI mva), .int (zI mfa), .ref a7, .ref a8, .ref a9, .int (zI mlo), .ref a10, .int (zI rm), .ref a11, .ref a12, .int (zI tm), .ref a13, .ref a14, .ref a15, .ref a16, .int (zI tmy), .ref a17])), (a1, .inl (cB, 200, .inl (zA tx))), (a2, .inl (cI, 2, .inl (zA pa))), (a3, .inl (cI, 18, .inl (zA ms))), (a4, .inl (cI, 18, .inl (zA ml))), (a5, .inl (cI, 18, .inl (zA mr))), (a6, .inl (cI, 18, .inl (zA mt))), (a7, .inl (cI, 1143, .inl (zA cur))), (a8, .inl (cZ, 2, .inl (zA ik))), (a9, .inl (cI, 9, .inl (zA sd))), (a10, .inl (cI, 9, .inl (zA ra))), (a11, .inl (cI, 9, .inl (zA bg))), (a12, .inl (cI, 4, .inl (zA to))), (a13, .inl (cI, 200, .inl (zA cd))), (a14, .inl (cI, 9, .inl (zA fi))), (a15, .inl (cI, 9, .inl (zA tsz))), (a16, .inl (cI, 9, .inl (zA tcm))), (a17, .inl (cI, 10, .inl (zA mg)))] H → va_D A [(a0, .inr (5, [.long mtr, .ref a1, .int (zI ty), .ref a2, .ref a3, .ref a4, .ref a5, .ref a6, .int (zI mat), .int (zI mst), .int (zI mso), .int (zI mva), .int (zI mfa), .ref a7, .ref a8, .ref a9, .int (zI mlo), .ref a10, .int (zI rm), .ref a11, .ref a12, .int (zI tm), .ref a13, .ref a14, .ref a15, .ref a16, .int (zI tmy), .ref a17])), (a1, .inl (cB, 200, .inl (zA tx))), (a2, .inl (cI, 2, .inl (zA pa))), (a3, .inl (cI, 18, .inl (zA ms))), (a4, .inl (cI, 18, .inl (zA ml))), (a5, .inl (cI, 18, .inl (zA mr))), (a6, .inl (cI, 18, .inl (zA mt))), (a7, .inl (cI, 1143, .inl (zA cur))), (a8, .inl (cZ, 2, .inl (zA ik))), (a9, .inl (cI, 9, .inl (zA sd))), (a10, .inl (cI, 9, .inl (zA ra))), (a11, .inl (cI, 9, .inl (zA bg))), (a12, .inl (cI, 4, .inl (zA to))), (a13, .inl (cI, 200, .inl (zA cd))), (a14, .inl (cI, 9, .inl (zA fi))), (a15, .inl (cI, 9, .inl (zA tsz))), (a16, .inl (cI, 9, .inl (zA tcm))), (a17, .inl (cI, 10, .inl (zA mg)))] → va_S A s.heap H locs → ∀ ls : Array Slot, lv_has ls 2 [(0, .ref a0), (1, .int (zI k))] → W p l e RM s m args below meth c H locs 0 0 QQ (F0 m 26 ls []) := by
    intro nM
    induction nM with
    | zero => intro k cur hmu; exact absurd hmu (Nat.not_lt_zero _)
    | succ nM ih26 =>
      intro k cur hmu hk hc H locs hP hD hS ls hl
      refine lv_iload_n hx hb dX6_undo_26 rfl (lv_at hl 1 rfl) ?_
      refine zv_bipush hx hb dX6_undo_27 (by decide +kernel) ?_
      have c20 : cur 20 = nw 20 - 1 := by rw [hc]; exact unS_20 (by omega)
      refine zv_icmp_ge (tgt := 64) hx hb (by omega) (by omega) dX6_undo_29 (by decide) (fun c_29 => ?_) (fun c_29 => ?_)
      · have ek : k = 18 := by omega
        subst ek
        refine lv_aload_n hx hb dX6_undo_64 rfl (lv_at hl 0 rfl) ?_
        refine va_get (D := (dC, dI)) (ci := 5) (v := .ref a7) (C := RX6) (T := TX6) (N := 28) hx hb hts in_X6 hown hK hP 0 rfl rfl 13 (by decide) w_0 (fun _ h9 => h9) rfl dX6_undo_65 ?_
        refine zv_bipush hx hb dX6_undo_68 (by decide +kernel) ?_
        refine lv_dup2_11 hx hb dX6_undo_70 rfl rfl ?_
        refine zv_iald hx hb hK hP 7 0 rfl rfl (by omega) dX6_undo_71 ?_
        refine zv_iconst hx hb dX6_undo_72 ?_
        refine zv_isub hx hb dX6_undo_73 ?_
        refine zv_iast (ws' := [(a0, .inr (5, [.long mtr, .ref a1, .int (zI ty), .ref a2, .ref a3, .ref a4, .ref a5, .ref a6, .int (zI mat), .int (zI mst), .int (zI mso), .int (zI mva), .int (zI mfa), .ref a7, .ref a8, .ref a9, .int (zI mlo), .ref a10, .int (zI rm), .ref a11, .ref a12, .int (zI tm), .ref a13, .ref a14, .ref a15, .ref a16, .int (zI tmy), .ref a17])), (a1, .inl (cB, 200, .inl (zA tx))), (a2, .inl (cI, 2, .inl (zA pa))), (a3, .inl (cI, 18, .inl (zA ms))), (a4, .inl (cI, 18, .inl (zA ml))), (a5, .inl (cI, 18, .inl (zA mr))), (a6, .inl (cI, 18, .inl (zA mt))), (a7, .inl (cI, 1143, .inl (zA (zu cur 19 ((cur 19) - 1))))), (a8, .inl (cZ, 2, .inl (zA ik))), (a9, .inl (cI, 9, .inl (zA sd))), (a10, .inl (cI, 9, .inl (zA ra))), (a11, .inl (cI, 9, .inl (zA bg))), (a12, .inl (cI, 4, .inl (zA to))), (a13, .inl (cI, 200, .inl (zA cd))), (a14, .inl (cI, 9, .inl (zA fi))), (a15, .inl (cI, 9, .inl (zA tsz))), (a16, .inl (cI, 9, .inl (zA tcm))), (a17, .inl (cI, 10, .inl (zA mg)))]) hx hb hK hP hD hS 7 0 rfl rfl (by omega) rfl dX6_undo_74 (fun H locs hP hD hS => ?_)
        refine lv_aload_n hx hb dX6_undo_75 rfl (lv_at hl 0 rfl) ?_
        refine va_get (D := (dC, dI)) (ci := 5) (v := .ref a7) (C := RX6) (T := TX6) (N := 28) hx hb hts in_X6 hown hK hP 0 rfl rfl 13 (by decide) w_0 (fun _ h9 => h9) rfl dX6_undo_76 ?_
        refine zv_bipush hx hb dX6_undo_79 (by decide +kernel) ?_
        refine zv_iald hx hb hK hP 7 0 rfl rfl (by omega) dX6_undo_81 ?_
        rw [← hQQ]
        exact zw_iret hx hb hr hlocks ((zu cur 19 ((cur 19) - 1))) (congrArg (fun z => some (Value.int (zI z))) (show nw 19 - 1 = (zu cur 19 ((cur 19) - 1)) 19 from by rw [zu_s, hc]; exact congrArg (fun z => z - 1) (unS_19 (by omega)).symm)) (by rw [hc]; rfl) hP hS dX6_undo_82
      · refine lv_aload_n hx hb dX6_undo_32 rfl (lv_at hl 0 rfl) ?_
        refine va_get (D := (dC, dI)) (ci := 5) (v := .ref a7) (C := RX6) (T := TX6) (N := 28) hx hb hts in_X6 hown hK hP 0 rfl rfl 13 (by decide) w_0 (fun _ h9 => h9) rfl dX6_undo_33 ?_
        refine lv_iload_n hx hb dX6_undo_36 rfl (lv_at hl 1 rfl) ?_
        refine lv_aload_n hx hb dX6_undo_37 rfl (lv_at hl 0 rfl) ?_
        refine va_get (D := (dC, dI)) (ci := 5) (v := .ref a7) (C := RX6) (T := TX6) (N := 28) hx hb hts in_X6 hown hK hP 0 rfl rfl 13 (by decide) w_0 (fun _ h9 => h9) rfl dX6_undo_38 ?_
        refine zv_bipush hx hb dX6_undo_41 (by decide +kernel) ?_
        refine zv_bipush hx hb dX6_undo_43 (by decide +kernel) ?_
        refine lv_aload_n hx hb dX6_undo_45 rfl (lv_at hl 0 rfl) ?_
        refine va_get (D := (dC, dI)) (ci := 5) (v := .ref a7) (C := RX6) (T := TX6) (N := 28) hx hb hts in_X6 hown hK hP 0 rfl rfl 13 (by decide) w_0 (fun _ h9 => h9) rfl dX6_undo_46 ?_
        refine zv_bipush hx hb dX6_undo_49 (by decide +kernel) ?_
        refine zv_iald hx hb hK hP 7 0 rfl rfl (by omega) dX6_undo_51 ?_
        refine zv_imul hx hb dX6_undo_52 ?_
        refine zv_iadd hx hb dX6_undo_53 ?_
        refine lv_iload_n hx hb dX6_undo_54 rfl (lv_at hl 1 rfl) ?_
        refine zv_iadd hx hb dX6_undo_55 ?_
        refine zv_iald hx hb hK hP 7 0 rfl rfl (by omega) dX6_undo_56 ?_
        refine zv_iast (ws' := [(a0, .inr (5, [.long mtr, .ref a1, .int (zI ty), .ref a2, .ref a3, .ref a4, .ref a5, .ref a6, .int (zI mat), .int (zI mst), .int (zI mso), .int (zI mva), .int (zI mfa), .ref a7, .ref a8, .ref a9, .int (zI mlo), .ref a10, .int (zI rm), .ref a11, .ref a12, .int (zI tm), .ref a13, .ref a14, .ref a15, .ref a16, .int (zI tmy), .ref a17])), (a1, .inl (cB, 200, .inl (zA tx))), (a2, .inl (cI, 2, .inl (zA pa))), (a3, .inl (cI, 18, .inl (zA ms))), (a4, .inl (cI, 18, .inl (zA ml))), (a5, .inl (cI, 18, .inl (zA mr))), (a6, .inl (cI, 18, .inl (zA mt))), (a7, .inl (cI, 1143, .inl (zA (zu cur k (cur ((21 + (18 * (cur 20))) + k)))))), (a8, .inl (cZ, 2, .inl (zA ik))), (a9, .inl (cI, 9, .inl (zA sd))), (a10, .inl (cI, 9, .inl (zA ra))), (a11, .inl (cI, 9, .inl (zA bg))), (a12, .inl (cI, 4, .inl (zA to))), (a13, .inl (cI, 200, .inl (zA cd))), (a14, .inl (cI, 9, .inl (zA fi))), (a15, .inl (cI, 9, .inl (zA tsz))), (a16, .inl (cI, 9, .inl (zA tcm))), (a17, .inl (cI, 10, .inl (zA mg)))]) hx hb hK hP hD hS 7 0 rfl rfl (by omega) rfl dX6_undo_57 (fun H locs hP hD hS => ?_)
        refine zv_iinc (k := 1) (a := k) (n := 1) (lv' := [(1, .int (zI (k + 1))), (0, .ref a0)]) hx hb dX6_undo_58 hl rfl (by decide) rfl (fun ls hl => ?_)
        refine lv_goto (tgt := 26) hx hb dX6_undo_61 (by decide) ?_
        exact ih26 (k + 1) (zu cur k (cur ((21 + (18 * (cur 20))) + k))) (by omega) (by omega) (by rw [c20, hc]; exact unS_s (by omega) (by omega)) _ _ hP hD hS _ (lv_sub hl [1, 0] rfl)
  refine lv_aload_n hx hb dX6_undo_0 rfl (lv_at hl 0 rfl) ?_
  refine va_get (D := (dC, dI)) (ci := 5) (v := .ref a7) (C := RX6) (T := TX6) (N := 28) hx hb hts in_X6 hown hK hP 0 rfl rfl 13 (by decide) w_0 (fun _ h9 => h9) rfl dX6_undo_1 ?_
  refine zv_bipush hx hb dX6_undo_4 (by decide +kernel) ?_
  refine zv_iald hx hb hK hP 7 0 rfl rfl (by omega) dX6_undo_6 ?_
  refine zv_if_ne (tgt := 13) hx hb (by omega) dX6_undo_7 (by decide) (fun c_7 => ?_) (fun c_7 => ?_)
  · refine lv_aload_n hx hb dX6_undo_13 rfl (lv_at hl 0 rfl) ?_
    refine va_get (D := (dC, dI)) (ci := 5) (v := .ref a7) (C := RX6) (T := TX6) (N := 28) hx hb hts in_X6 hown hK hP 0 rfl rfl 13 (by decide) w_0 (fun _ h9 => h9) rfl dX6_undo_14 ?_
    refine zv_bipush hx hb dX6_undo_17 (by decide +kernel) ?_
    refine lv_dup2_11 hx hb dX6_undo_19 rfl rfl ?_
    refine zv_iald hx hb hK hP 7 0 rfl rfl (by omega) dX6_undo_20 ?_
    refine zv_iconst hx hb dX6_undo_21 ?_
    refine zv_isub hx hb dX6_undo_22 ?_
    refine zv_iast (ws' := [(a0, .inr (5, [.long mtr, .ref a1, .int (zI ty), .ref a2, .ref a3, .ref a4, .ref a5, .ref a6, .int (zI mat), .int (zI mst), .int (zI mso), .int (zI mva), .int (zI mfa), .ref a7, .ref a8, .ref a9, .int (zI mlo), .ref a10, .int (zI rm), .ref a11, .ref a12, .int (zI tm), .ref a13, .ref a14, .ref a15, .ref a16, .int (zI tmy), .ref a17])), (a1, .inl (cB, 200, .inl (zA tx))), (a2, .inl (cI, 2, .inl (zA pa))), (a3, .inl (cI, 18, .inl (zA ms))), (a4, .inl (cI, 18, .inl (zA ml))), (a5, .inl (cI, 18, .inl (zA mr))), (a6, .inl (cI, 18, .inl (zA mt))), (a7, .inl (cI, 1143, .inl (zA (zu nw 20 ((nw 20) - 1))))), (a8, .inl (cZ, 2, .inl (zA ik))), (a9, .inl (cI, 9, .inl (zA sd))), (a10, .inl (cI, 9, .inl (zA ra))), (a11, .inl (cI, 9, .inl (zA bg))), (a12, .inl (cI, 4, .inl (zA to))), (a13, .inl (cI, 200, .inl (zA cd))), (a14, .inl (cI, 9, .inl (zA fi))), (a15, .inl (cI, 9, .inl (zA tsz))), (a16, .inl (cI, 9, .inl (zA tcm))), (a17, .inl (cI, 10, .inl (zA mg)))]) hx hb hK hP hD hS 7 0 rfl rfl (by omega) rfl dX6_undo_23 (fun H locs hP hD hS => ?_)
    refine zv_iconst hx hb dX6_undo_24 ?_
    refine lv_istore_n (lv' := [(1, .int (zI 0)), (0, .ref a0)]) hx hb dX6_undo_25 rfl hl (by decide) rfl (fun ls hl => ?_)
    exact cut26 _ 0 (zu nw 20 ((nw 20) - 1)) (Nat.lt_succ_self _) (by omega) (by exact unS_0.symm) _ _ hP hD hS _ (lv_sub hl [1, 0] rfl)
  · exfalso; omega
set_option maxHeartbeats 4000000 in
set_option maxRecDepth 100000 in
theorem c_X6_lodgeN (l : Launch) (dC : Nat → ClassId) (dI : Nat → Nat → Nat) (cI cB cZ : ClassId) (a0 : Nat) (a1 : Nat) (a2 : Nat) (a3 : Nat) (a4 : Nat) (a5 : Nat) (a6 : Nat) (a7 : Nat) (a8 : Nat) (a9 : Nat) (a10 : Nat) (a11 : Nat) (a12 : Nat) (a13 : Nat) (a14 : Nat) (a15 : Nat) (a16 : Nat) (a17 : Nat) (mtr : Int64) (tx : Int → Int) (ty : Int) (pa : Int → Int) (ms : Int → Int) (ml : Int → Int) (mr : Int → Int) (mt : Int → Int) (mat : Int) (mst : Int) (mso : Int) (mva : Int) (mfa : Int) (nw : Int → Int) (ik : Int → Int) (sd : Int → Int) (mlo : Int) (ra : Int → Int) (rm : Int) (bg : Int → Int) (to : Int → Int) (tm : Int) (cd : Int → Int) (fi : Int → Int) (tsz : Int → Int) (tcm : Int → Int) (tmy : Int) (mg : Int → Int) (k : Int) (hh : hOk (pa 0) ms ml mr mt) (hk : -2147483648 ≤ k ∧ k ≤ 2147483647) (hno : ¬ (k = -1 ∨ (0 ≤ k ∧ k < pa 0))) : MetR l yX6_lodge wsX6_lodge ({ frames := 2, cells := 0, slots := 0, locals := 43 }) (dC, dI) vwCl (zT cI cB cZ) zN [(a0, .inr (5, [.long mtr, .ref a1, .int (zI ty), .ref a2, .ref a3, .ref a4, .ref a5, .ref a6, .int (zI mat), .int (zI mst), .int (zI mso), .int (zI mva), .int (zI mfa), .ref a7, .ref a8, .ref a9, .int (zI mlo), .ref a10, .int (zI rm), .ref a11, .ref a12, .int (zI tm), .ref a13, .ref a14, .ref a15, .ref a16, .int (zI tmy), .ref a17])), (a1, .inl (cB, 200, .inl (zA tx))), (a2, .inl (cI, 2, .inl (zA pa))), (a3, .inl (cI, 18, .inl (zA ms))), (a4, .inl (cI, 18, .inl (zA ml))), (a5, .inl (cI, 18, .inl (zA mr))), (a6, .inl (cI, 18, .inl (zA mt))), (a7, .inl (cI, 1143, .inl (zA nw))), (a8, .inl (cZ, 2, .inl (zA ik))), (a9, .inl (cI, 9, .inl (zA sd))), (a10, .inl (cI, 9, .inl (zA ra))), (a11, .inl (cI, 9, .inl (zA bg))), (a12, .inl (cI, 4, .inl (zA to))), (a13, .inl (cI, 200, .inl (zA cd))), (a14, .inl (cI, 9, .inl (zA fi))), (a15, .inl (cI, 9, .inl (zA tsz))), (a16, .inl (cI, 9, .inl (zA tcm))), (a17, .inl (cI, 10, .inl (zA mg)))] [.ref a0, .int (zI k)] (zI (-1)) := by
  refine MetR.intro (cc := cX6_lodge) (maxL := 3) (ret := (some .int)) (by decide) rfl (Nat.le_of_ble_eq_true rfl) ?_
  intro p e s m args below meth c hx hb hr hlocks hml hts hown hP hK hE ls hl
  have hown : s.vm.findClass RX6 = some m.cls := hown
  have hl : lv_has ls 3 [(0, .ref a0), (1, .int (zI k))] := hl
  generalize hRM : ({ frames := 2, cells := 0, slots := 0, locals := 43 } : Room) = RM
  generalize hQQ : MQ below (vp_Si (fun r => r = zI (-1))) args s 0 0 (fun _ => False) = QQ
  have hn := hh.1
  refine lv_iload_n hx hb dX6_lodge_0 rfl (lv_at hl 1 rfl) ?_
  refine zv_iconst hx hb dX6_lodge_1 ?_
  refine zv_icmp_eq (tgt := 15) hx hb (by omega) (by omega) dX6_lodge_2 (by decide) (fun c_2 => ?_) (fun c_2 => ?_)
  · exfalso; omega
  · refine lv_aload_n hx hb dX6_lodge_5 rfl (lv_at hl 0 rfl) ?_
    refine lv_iload_n hx hb dX6_lodge_6 rfl (lv_at hl 1 rfl) ?_
    refine zv_callRVa (As := [.int (zI k)]) (rest := []) ⟨hx, hb, hml, hown, hts⟩ (c_X6_isPart l dC dI cI cB cZ a0 a1 a2 a3 a4 a5 a6 a7 a8 a9 a10 a11 a12 a13 a14 a15 a16 a17 mtr tx ty pa ms ml mr mt mat mst mso mva mfa nw ik sd mlo ra rm bg to tm cd fi tsz tcm tmy mg k (by omega) (by omega)) (cwV 1 hts gX6_lodge_X6_isPart rfl rfl rfl (by decide +kernel) ⟨by rw [← hRM]; first | decide | (dsimp only; omega), by rw [← hRM]; first | decide | (dsimp only; omega)⟩) hP hK zN_bl (zN_go hE) (q0 := 0) rfl rfl rfl rfl hl.1 rfl (Nat.le_of_ble_eq_true rfl) dX6_lodge_7 ⟨Nat.zero_le _, Nat.zero_le _⟩ ?_
    refine zv_ifne_b (tgt := 15) hx hb dX6_lodge_10 (by decide) (fun c_10 => ?_) (fun c_10 => ?_)
    · exfalso; omega
    · refine zv_iconst hx hb dX6_lodge_13 ?_
      rw [← hQQ]
      exact zr_iret hx hb hr hlocks (congrArg zI (show (-1) = -1 from by first | rfl | omega | exact (bZ_t (by omega)).symm | exact (bZ_f (by omega)).symm)) dX6_lodge_14
set_option maxHeartbeats 4000000 in
set_option maxRecDepth 100000 in
theorem c_X6_lodgeY (l : Launch) (dC : Nat → ClassId) (dI : Nat → Nat → Nat) (cI cB cZ : ClassId) (a0 : Nat) (a1 : Nat) (a2 : Nat) (a3 : Nat) (a4 : Nat) (a5 : Nat) (a6 : Nat) (a7 : Nat) (a8 : Nat) (a9 : Nat) (a10 : Nat) (a11 : Nat) (a12 : Nat) (a13 : Nat) (a14 : Nat) (a15 : Nat) (a16 : Nat) (a17 : Nat) (mtr : Int64) (tx : Int → Int) (ty : Int) (pa : Int → Int) (ms : Int → Int) (ml : Int → Int) (mr : Int → Int) (mt : Int → Int) (mat : Int) (mst : Int) (mso : Int) (mva : Int) (mfa : Int) (nw : Int → Int) (ik : Int → Int) (sd : Int → Int) (mlo : Int) (ra : Int → Int) (rm : Int) (bg : Int → Int) (to : Int → Int) (tm : Int) (cd : Int → Int) (fi : Int → Int) (tsz : Int → Int) (tcm : Int → Int) (tmy : Int) (mg : Int → Int) (k : Int) (hh : hOk (pa 0) ms ml mr mt) (hk : -2147483648 ≤ k ∧ k ≤ 2147483647) (hok : k = -1 ∨ (0 ≤ k ∧ k < pa 0)) : MetW (S := (Int → Int)) l yX6_lodge wsX6_lodge ({ frames := 2, cells := 0, slots := 0, locals := 43 }) (dC, dI) vwCl (zT cI cB cZ) zN [(a0, .inr (5, [.long mtr, .ref a1, .int (zI ty), .ref a2, .ref a3, .ref a4, .ref a5, .ref a6, .int (zI mat), .int (zI mst), .int (zI mso), .int (zI mva), .int (zI mfa), .ref a7, .ref a8, .ref a9, .int (zI mlo), .ref a10, .int (zI rm), .ref a11, .ref a12, .int (zI tm), .ref a13, .ref a14, .ref a15, .ref a16, .int (zI tmy), .ref a17])), (a1, .inl (cB, 200, .inl (zA tx))), (a2, .inl (cI, 2, .inl (zA pa))), (a3, .inl (cI, 18, .inl (zA ms))), (a4, .inl (cI, 18, .inl (zA ml))), (a5, .inl (cI, 18, .inl (zA mr))), (a6, .inl (cI, 18, .inl (zA mt))), (a7, .inl (cI, 1143, .inl (zA nw))), (a8, .inl (cZ, 2, .inl (zA ik))), (a9, .inl (cI, 9, .inl (zA sd))), (a10, .inl (cI, 9, .inl (zA ra))), (a11, .inl (cI, 9, .inl (zA bg))), (a12, .inl (cI, 4, .inl (zA to))), (a13, .inl (cI, 200, .inl (zA cd))), (a14, .inl (cI, 9, .inl (zA fi))), (a15, .inl (cI, 9, .inl (zA tsz))), (a16, .inl (cI, 9, .inl (zA tcm))), (a17, .inl (cI, 10, .inl (zA mg)))] [.ref a0, .int (zI k)] (fun u => some (.int (zI (nw 18)))) (fun u => [(a0, .inr (5, [.long mtr, .ref a1, .int (zI ty), .ref a2, .ref a3, .ref a4, .ref a5, .ref a6, .int (zI mat), .int (zI mst), .int (zI mso), .int (zI mva), .int (zI mfa), .ref a7, .ref a8, .ref a9, .int (zI mlo), .ref a10, .int (zI rm), .ref a11, .ref a12, .int (zI tm), .ref a13, .ref a14, .ref a15, .ref a16, .int (zI tmy), .ref a17])), (a1, .inl (cB, 200, .inl (zA tx))), (a2, .inl (cI, 2, .inl (zA pa))), (a3, .inl (cI, 18, .inl (zA ms))), (a4, .inl (cI, 18, .inl (zA ml))), (a5, .inl (cI, 18, .inl (zA mr))), (a6, .inl (cI, 18, .inl (zA mt))), (a7, .inl (cI, 1143, .inl (zA u))), (a8, .inl (cZ, 2, .inl (zA ik))), (a9, .inl (cI, 9, .inl (zA sd))), (a10, .inl (cI, 9, .inl (zA ra))), (a11, .inl (cI, 9, .inl (zA bg))), (a12, .inl (cI, 4, .inl (zA to))), (a13, .inl (cI, 200, .inl (zA cd))), (a14, .inl (cI, 9, .inl (zA fi))), (a15, .inl (cI, 9, .inl (zA tsz))), (a16, .inl (cI, 9, .inl (zA tcm))), (a17, .inl (cI, 10, .inl (zA mg)))]) (fun u => (u = zu nw 18 (if k = -1 then -9 else k))) := by
  refine MetW.intro (cc := cX6_lodge) (maxL := 3) (ret := (some .int)) (by decide) rfl (Nat.le_of_ble_eq_true rfl) ?_
  intro p e s m args below meth c A hx hb hr hlocks hml hts hown hP hK hD hS hA hE ls hl
  have hown : s.vm.findClass RX6 = some m.cls := hown
  have hl : lv_has ls 3 [(0, .ref a0), (1, .int (zI k))] := hl
  generalize hRM : ({ frames := 2, cells := 0, slots := 0, locals := 43 } : Room) = RM
  generalize hQQ : MQ below (QW (S := (Int → Int)) (dC, dI) vwCl A (fun u => some (.int (zI (nw 18)))) (fun u => [(a0, .inr (5, [.long mtr, .ref a1, .int (zI ty), .ref a2, .ref a3, .ref a4, .ref a5, .ref a6, .int (zI mat), .int (zI mst), .int (zI mso), .int (zI mva), .int (zI mfa), .ref a7, .ref a8, .ref a9, .int (zI mlo), .ref a10, .int (zI rm), .ref a11, .ref a12, .int (zI tm), .ref a13, .ref a14, .ref a15, .ref a16, .int (zI tmy), .ref a17])), (a1, .inl (cB, 200, .inl (zA tx))), (a2, .inl (cI, 2, .inl (zA pa))), (a3, .inl (cI, 18, .inl (zA ms))), (a4, .inl (cI, 18, .inl (zA ml))), (a5, .inl (cI, 18, .inl (zA mr))), (a6, .inl (cI, 18, .inl (zA mt))), (a7, .inl (cI, 1143, .inl (zA u))), (a8, .inl (cZ, 2, .inl (zA ik))), (a9, .inl (cI, 9, .inl (zA sd))), (a10, .inl (cI, 9, .inl (zA ra))), (a11, .inl (cI, 9, .inl (zA bg))), (a12, .inl (cI, 4, .inl (zA to))), (a13, .inl (cI, 200, .inl (zA cd))), (a14, .inl (cI, 9, .inl (zA fi))), (a15, .inl (cI, 9, .inl (zA tsz))), (a16, .inl (cI, 9, .inl (zA tcm))), (a17, .inl (cI, 10, .inl (zA mg)))]) (fun u => (u = zu nw 18 (if k = -1 then -9 else k)))) args s 0 0 A = QQ
  have in_X6 : ∀ w ∈ wsX60, w ∈ wsX6_lodge := by decide +kernel
  have w_0 := hts (.fieldLink RX6 29 "WallMarblesModel" "now" "[I") (by decide +kernel)
  have hn := hh.1
  refine lv_iload_n hx hb dX6_lodge_0 rfl (lv_at hl 1 rfl) ?_
  refine zv_iconst hx hb dX6_lodge_1 ?_
  refine zv_icmp_eq (tgt := 15) hx hb (by omega) (by omega) dX6_lodge_2 (by decide) (fun c_2 => ?_) (fun c_2 => ?_)
  · refine lv_aload_n hx hb dX6_lodge_15 rfl (lv_at hl 0 rfl) ?_
    refine va_get (D := (dC, dI)) (ci := 5) (v := .ref a7) (C := RX6) (T := TX6) (N := 28) hx hb hts in_X6 hown hK hP 0 rfl rfl 13 (by decide) w_0 (fun _ h9 => h9) rfl dX6_lodge_16 ?_
    refine zv_bipush hx hb dX6_lodge_19 (by decide +kernel) ?_
    refine zv_iald hx hb hK hP 7 0 rfl rfl (by omega) dX6_lodge_21 ?_
    refine lv_istore_n (lv' := [(2, .int (zI (nw 18))), (0, .ref a0), (1, .int (zI k))]) hx hb dX6_lodge_22 rfl hl (by decide) rfl (fun ls hl => ?_)
    refine lv_aload_n hx hb dX6_lodge_23 rfl (lv_at hl 1 rfl) ?_
    refine va_get (D := (dC, dI)) (ci := 5) (v := .ref a7) (C := RX6) (T := TX6) (N := 28) hx hb hts in_X6 hown hK hP 0 rfl rfl 13 (by decide) w_0 (fun _ h9 => h9) rfl dX6_lodge_24 ?_
    refine zv_bipush hx hb dX6_lodge_27 (by decide +kernel) ?_
    refine lv_iload_n hx hb dX6_lodge_29 rfl (lv_at hl 2 rfl) ?_
    refine zv_iconst hx hb dX6_lodge_30 ?_
    refine zv_icmp_ne (tgt := 39) hx hb (by omega) (by omega) dX6_lodge_31 (by decide) (fun c_31 => ?_) (fun c_31 => ?_)
    · refine lv_iload_n hx hb dX6_lodge_39 rfl (lv_at hl 2 rfl) ?_
      refine zv_iast (ws' := [(a0, .inr (5, [.long mtr, .ref a1, .int (zI ty), .ref a2, .ref a3, .ref a4, .ref a5, .ref a6, .int (zI mat), .int (zI mst), .int (zI mso), .int (zI mva), .int (zI mfa), .ref a7, .ref a8, .ref a9, .int (zI mlo), .ref a10, .int (zI rm), .ref a11, .ref a12, .int (zI tm), .ref a13, .ref a14, .ref a15, .ref a16, .int (zI tmy), .ref a17])), (a1, .inl (cB, 200, .inl (zA tx))), (a2, .inl (cI, 2, .inl (zA pa))), (a3, .inl (cI, 18, .inl (zA ms))), (a4, .inl (cI, 18, .inl (zA ml))), (a5, .inl (cI, 18, .inl (zA mr))), (a6, .inl (cI, 18, .inl (zA mt))), (a7, .inl (cI, 1143, .inl (zA (zu nw 18 k)))), (a8, .inl (cZ, 2, .inl (zA ik))), (a9, .inl (cI, 9, .inl (zA sd))), (a10, .inl (cI, 9, .inl (zA ra))), (a11, .inl (cI, 9, .inl (zA bg))), (a12, .inl (cI, 4, .inl (zA to))), (a13, .inl (cI, 200, .inl (zA cd))), (a14, .inl (cI, 9, .inl (zA fi))), (a15, .inl (cI, 9, .inl (zA tsz))), (a16, .inl (cI, 9, .inl (zA tcm))), (a17, .inl (cI, 10, .inl (zA mg)))]) hx hb hK hP hD hS 7 0 rfl rfl (by omega) rfl dX6_lodge_40 (fun H locs hP hD hS => ?_)
      refine lv_iload_n hx hb dX6_lodge_41 rfl (lv_at hl 0 rfl) ?_
      rw [← hQQ]
      exact zw_iret hx hb hr hlocks ((zu nw 18 k)) rfl (by first | (exfalso; omega) | rw [if_pos (by omega)] | rw [if_neg (by omega)]) hP hS dX6_lodge_42
    · refine zv_bipush hx hb dX6_lodge_34 (by decide +kernel) ?_
      refine lv_goto (tgt := 40) hx hb dX6_lodge_36 (by decide) ?_
      refine zv_iast (ws' := [(a0, .inr (5, [.long mtr, .ref a1, .int (zI ty), .ref a2, .ref a3, .ref a4, .ref a5, .ref a6, .int (zI mat), .int (zI mst), .int (zI mso), .int (zI mva), .int (zI mfa), .ref a7, .ref a8, .ref a9, .int (zI mlo), .ref a10, .int (zI rm), .ref a11, .ref a12, .int (zI tm), .ref a13, .ref a14, .ref a15, .ref a16, .int (zI tmy), .ref a17])), (a1, .inl (cB, 200, .inl (zA tx))), (a2, .inl (cI, 2, .inl (zA pa))), (a3, .inl (cI, 18, .inl (zA ms))), (a4, .inl (cI, 18, .inl (zA ml))), (a5, .inl (cI, 18, .inl (zA mr))), (a6, .inl (cI, 18, .inl (zA mt))), (a7, .inl (cI, 1143, .inl (zA (zu nw 18 ((-9)))))), (a8, .inl (cZ, 2, .inl (zA ik))), (a9, .inl (cI, 9, .inl (zA sd))), (a10, .inl (cI, 9, .inl (zA ra))), (a11, .inl (cI, 9, .inl (zA bg))), (a12, .inl (cI, 4, .inl (zA to))), (a13, .inl (cI, 200, .inl (zA cd))), (a14, .inl (cI, 9, .inl (zA fi))), (a15, .inl (cI, 9, .inl (zA tsz))), (a16, .inl (cI, 9, .inl (zA tcm))), (a17, .inl (cI, 10, .inl (zA mg)))]) hx hb hK hP hD hS 7 0 rfl rfl (by omega) rfl dX6_lodge_40 (fun H locs hP hD hS => ?_)
      refine lv_iload_n hx hb dX6_lodge_41 rfl (lv_at hl 0 rfl) ?_
      rw [← hQQ]
      exact zw_iret hx hb hr hlocks ((zu nw 18 ((-9)))) rfl (by first | (exfalso; omega) | rw [if_pos (by omega)] | rw [if_neg (by omega)]) hP hS dX6_lodge_42
  · refine lv_aload_n hx hb dX6_lodge_5 rfl (lv_at hl 0 rfl) ?_
    refine lv_iload_n hx hb dX6_lodge_6 rfl (lv_at hl 1 rfl) ?_
    refine zv_callRVa (As := [.int (zI k)]) (rest := []) ⟨hx, hb, hml, hown, hts⟩ (c_X6_isPart l dC dI cI cB cZ a0 a1 a2 a3 a4 a5 a6 a7 a8 a9 a10 a11 a12 a13 a14 a15 a16 a17 mtr tx ty pa ms ml mr mt mat mst mso mva mfa nw ik sd mlo ra rm bg to tm cd fi tsz tcm tmy mg k (by omega) (by omega)) (cwV 1 hts gX6_lodge_X6_isPart rfl rfl rfl (by decide +kernel) ⟨by rw [← hRM]; first | decide | (dsimp only; omega), by rw [← hRM]; first | decide | (dsimp only; omega)⟩) hP hK zN_bl (zN_go hE) (q0 := 0) rfl rfl rfl rfl hl.1 rfl (Nat.le_of_ble_eq_true rfl) dX6_lodge_7 ⟨Nat.zero_le _, Nat.zero_le _⟩ ?_
    refine zv_ifne_b (tgt := 15) hx hb dX6_lodge_10 (by decide) (fun c_10 => ?_) (fun c_10 => ?_)
    · refine lv_aload_n hx hb dX6_lodge_15 rfl (lv_at hl 0 rfl) ?_
      refine va_get (D := (dC, dI)) (ci := 5) (v := .ref a7) (C := RX6) (T := TX6) (N := 28) hx hb hts in_X6 hown hK hP 0 rfl rfl 13 (by decide) w_0 (fun _ h9 => h9) rfl dX6_lodge_16 ?_
      refine zv_bipush hx hb dX6_lodge_19 (by decide +kernel) ?_
      refine zv_iald hx hb hK hP 7 0 rfl rfl (by omega) dX6_lodge_21 ?_
      refine lv_istore_n (lv' := [(2, .int (zI (nw 18))), (0, .ref a0), (1, .int (zI k))]) hx hb dX6_lodge_22 rfl hl (by decide) rfl (fun ls hl => ?_)
      refine lv_aload_n hx hb dX6_lodge_23 rfl (lv_at hl 1 rfl) ?_
      refine va_get (D := (dC, dI)) (ci := 5) (v := .ref a7) (C := RX6) (T := TX6) (N := 28) hx hb hts in_X6 hown hK hP 0 rfl rfl 13 (by decide) w_0 (fun _ h9 => h9) rfl dX6_lodge_24 ?_
      refine zv_bipush hx hb dX6_lodge_27 (by decide +kernel) ?_
      refine lv_iload_n hx hb dX6_lodge_29 rfl (lv_at hl 2 rfl) ?_
      refine zv_iconst hx hb dX6_lodge_30 ?_
      refine zv_icmp_ne (tgt := 39) hx hb (by omega) (by omega) dX6_lodge_31 (by decide) (fun c_31 => ?_) (fun c_31 => ?_)
      · refine lv_iload_n hx hb dX6_lodge_39 rfl (lv_at hl 2 rfl) ?_
        refine zv_iast (ws' := [(a0, .inr (5, [.long mtr, .ref a1, .int (zI ty), .ref a2, .ref a3, .ref a4, .ref a5, .ref a6, .int (zI mat), .int (zI mst), .int (zI mso), .int (zI mva), .int (zI mfa), .ref a7, .ref a8, .ref a9, .int (zI mlo), .ref a10, .int (zI rm), .ref a11, .ref a12, .int (zI tm), .ref a13, .ref a14, .ref a15, .ref a16, .int (zI tmy), .ref a17])), (a1, .inl (cB, 200, .inl (zA tx))), (a2, .inl (cI, 2, .inl (zA pa))), (a3, .inl (cI, 18, .inl (zA ms))), (a4, .inl (cI, 18, .inl (zA ml))), (a5, .inl (cI, 18, .inl (zA mr))), (a6, .inl (cI, 18, .inl (zA mt))), (a7, .inl (cI, 1143, .inl (zA (zu nw 18 k)))), (a8, .inl (cZ, 2, .inl (zA ik))), (a9, .inl (cI, 9, .inl (zA sd))), (a10, .inl (cI, 9, .inl (zA ra))), (a11, .inl (cI, 9, .inl (zA bg))), (a12, .inl (cI, 4, .inl (zA to))), (a13, .inl (cI, 200, .inl (zA cd))), (a14, .inl (cI, 9, .inl (zA fi))), (a15, .inl (cI, 9, .inl (zA tsz))), (a16, .inl (cI, 9, .inl (zA tcm))), (a17, .inl (cI, 10, .inl (zA mg)))]) hx hb hK hP hD hS 7 0 rfl rfl (by omega) rfl dX6_lodge_40 (fun H locs hP hD hS => ?_)
        refine lv_iload_n hx hb dX6_lodge_41 rfl (lv_at hl 0 rfl) ?_
        rw [← hQQ]
        exact zw_iret hx hb hr hlocks ((zu nw 18 k)) rfl (by first | (exfalso; omega) | rw [if_pos (by omega)] | rw [if_neg (by omega)]) hP hS dX6_lodge_42
      · refine zv_bipush hx hb dX6_lodge_34 (by decide +kernel) ?_
        refine lv_goto (tgt := 40) hx hb dX6_lodge_36 (by decide) ?_
        refine zv_iast (ws' := [(a0, .inr (5, [.long mtr, .ref a1, .int (zI ty), .ref a2, .ref a3, .ref a4, .ref a5, .ref a6, .int (zI mat), .int (zI mst), .int (zI mso), .int (zI mva), .int (zI mfa), .ref a7, .ref a8, .ref a9, .int (zI mlo), .ref a10, .int (zI rm), .ref a11, .ref a12, .int (zI tm), .ref a13, .ref a14, .ref a15, .ref a16, .int (zI tmy), .ref a17])), (a1, .inl (cB, 200, .inl (zA tx))), (a2, .inl (cI, 2, .inl (zA pa))), (a3, .inl (cI, 18, .inl (zA ms))), (a4, .inl (cI, 18, .inl (zA ml))), (a5, .inl (cI, 18, .inl (zA mr))), (a6, .inl (cI, 18, .inl (zA mt))), (a7, .inl (cI, 1143, .inl (zA (zu nw 18 ((-9)))))), (a8, .inl (cZ, 2, .inl (zA ik))), (a9, .inl (cI, 9, .inl (zA sd))), (a10, .inl (cI, 9, .inl (zA ra))), (a11, .inl (cI, 9, .inl (zA bg))), (a12, .inl (cI, 4, .inl (zA to))), (a13, .inl (cI, 200, .inl (zA cd))), (a14, .inl (cI, 9, .inl (zA fi))), (a15, .inl (cI, 9, .inl (zA tsz))), (a16, .inl (cI, 9, .inl (zA tcm))), (a17, .inl (cI, 10, .inl (zA mg)))]) hx hb hK hP hD hS 7 0 rfl rfl (by omega) rfl dX6_lodge_40 (fun H locs hP hD hS => ?_)
        refine lv_iload_n hx hb dX6_lodge_41 rfl (lv_at hl 0 rfl) ?_
        rw [← hQQ]
        exact zw_iret hx hb hr hlocks ((zu nw 18 ((-9)))) rfl (by first | (exfalso; omega) | rw [if_pos (by omega)] | rw [if_neg (by omega)]) hP hS dX6_lodge_42
    · exfalso; omega
