def zf (g : Int → Int) (i v : Int) : Int → Int := fun k => if 0 ≤ k ∧ k < i then v else g k
theorem zf_0 {g : Int → Int} {v : Int} : zf g 0 v = g := by
  funext k
  exact if_neg (by omega)
theorem zf_s {g : Int → Int} {i v : Int} (h : 0 ≤ i) : zu (zf g i v) i v = zf g (i + 1) v := by
  funext k
  unfold zu zf
  by_cases h1 : k = i
  · rw [if_pos h1, if_pos (by omega)]
  · rw [if_neg h1]
    by_cases h2 : 0 ≤ k ∧ k < i
    · rw [if_pos h2, if_pos (by omega)]
    · rw [if_neg h2, if_neg (by omega)]
theorem zf_in {g : Int → Int} {i v k : Int} (h : 0 ≤ k ∧ k < i) : zf g i v k = v := if_pos h
def aUp (al : Int → Int) (k b : Int) : Int → Int := if 0 ≤ k then zu al k (al k + b) else al
/-- the stands behind the first i of the tried ones, and whether they all came so -/
def trT (so le ri ti : Int → Int) (lod n : Int) (ts : Int → Int) : Nat → (Int → Int)
  | 0 => fun _ => 0
  | i + 1 => (goS so le ri ti lod (ts (i : Int)) 9 (trT so le ri ti lod n ts i) (n - 1)).1
def trK (so le ri ti : Int → Int) (lod n : Int) (ts tc : Int → Int) : Nat → Bool
  | 0 => true
  | i + 1 => trK so le ri ti lod n ts tc i && decide ((goS so le ri ti lod (ts (i : Int)) 9 (trT so le ri ti lod n ts i) (n - 1)).2 = tc (i : Int))
theorem trT_s {so le ri ti : Int → Int} {lod n : Int} {ts : Int → Int} {i : Int} (h : 0 ≤ i) : trT so le ri ti lod n ts (i + 1).toNat = (goS so le ri ti lod (ts i) 9 (trT so le ri ti lod n ts i.toNat) (n - 1)).1 := by
  obtain ⟨k, rfl⟩ := Int.eq_ofNat_of_zero_le h
  rw [show ((k : Int) + 1).toNat = k + 1 by omega, show ((k : Int)).toNat = k by omega]
  rfl
theorem trK_e {so le ri ti : Int → Int} {lod n : Int} {ts tc : Int → Int} {i : Int} (h : 0 ≤ i) : trK so le ri ti lod n ts tc (i + 1).toNat = (trK so le ri ti lod n ts tc i.toNat && decide ((goS so le ri ti lod (ts i) 9 (trT so le ri ti lod n ts i.toNat) (n - 1)).2 = tc i)) := by
  obtain ⟨k, rfl⟩ := Int.eq_ofNat_of_zero_le h
  rw [show ((k : Int) + 1).toNat = k + 1 by omega, show ((k : Int)).toNat = k by omega]
  rfl
theorem trK_s {so le ri ti : Int → Int} {lod n : Int} {ts tc : Int → Int} {i : Int} (h : 0 ≤ i) (h1 : trK so le ri ti lod n ts tc i.toNat = true) (h2 : (goS so le ri ti lod (ts i) 9 (trT so le ri ti lod n ts i.toNat) (n - 1)).2 = tc i) : trK so le ri ti lod n ts tc (i + 1).toNat = true := by
  rw [trK_e h, h1, decide_eq_true h2]
  rfl
theorem trK_dn {so le ri ti : Int → Int} {lod n : Int} {ts tc : Int → Int} (i : Nat) : ∀ j : Nat, trK so le ri ti lod n ts tc i = false → trK so le ri ti lod n ts tc (i + j) = false
  | 0, h => h
  | j + 1, h => by
    show (trK so le ri ti lod n ts tc (i + j) && _) = false
    rw [trK_dn i j h]
    rfl
theorem trK_no {so le ri ti : Int → Int} {lod n : Int} {ts tc : Int → Int} {i tn : Int} (h : 0 ≤ i) (h1 : i < tn) (h2 : ¬ (goS so le ri ti lod (ts i) 9 (trT so le ri ti lod n ts i.toNat) (n - 1)).2 = tc i) : ¬ trK so le ri ti lod n ts tc tn.toNat = true := by
  have h3 : trK so le ri ti lod n ts tc (i + 1).toNat = false := by
    rw [trK_e h, decide_eq_false h2, Bool.and_false]
  have h4 := trK_dn (so := so) (le := le) (ri := ri) (ti := ti) (lod := lod) (n := n) (ts := ts) (tc := tc) (i + 1).toNat (tn.toNat - (i + 1).toNat) h3
  rw [show (i + 1).toNat + (tn.toNat - (i + 1).toNat) = tn.toNat by omega] at h4
  rw [h4]
  exact Bool.false_ne_true
theorem sOk_0 {n : Int} {so le ri ti : Int → Int} (hh : hOk n so le ri ti) : sOk n so ti (fun _ => 0) := by
  intro k h0 h1
  refine ⟨Int.le_refl 0, fun h => ?_, fun _ => rfl⟩
  obtain ⟨a1, a2, a3, a4, a5, a6, a7, a8⟩ := hh.2 k h0 h
  exact ⟨fun q => by have := a4 q; show (0 : Int) < _; omega, fun q => by have := a5 q; show (0 : Int) < _; omega, fun _ => rfl⟩
set_option maxHeartbeats 4000000 in
set_option maxRecDepth 100000 in
theorem c_J7_fill_53178 (l : Launch) (dC : Nat → ClassId) (dI : Nat → Nat → Nat) (cI cB cZ : ClassId) (f0 : Nat) (N : Nat) (g : Int → Int) (v : Int) (hN : N ≤ 1000) : MetW (S := Unit) l yJ7_fill_53178 wsJ7_fill_53178 ({ frames := 0, cells := 0, slots := 0, locals := 0 }) (dC, dI) vwCl (zT cI cB cZ) zN [(f0, .inl (cI, N, .inl (zA g)))] [.ref f0, .int (zI v)] (fun u => none) (fun u => [(f0, .inl (cI, N, .inl (zA (zf g (N : Int) v))))]) (fun u => True) := by
  refine MetW.intro (cc := cJ7_fill_53178) (maxL := 4) (ret := none) (by decide) rfl (Nat.le_of_ble_eq_true rfl) ?_
  intro p e s m args below meth c A hx hb hr hlocks hml hts hown hP hK hD hS hA hE ls hl
  have hown : s.vm.findClass RJ7 = some m.cls := hown
  have hl : lv_has ls 4 [(0, .ref f0), (1, .int (zI v))] := hl
  generalize hRM : ({ frames := 0, cells := 0, slots := 0, locals := 0 } : Room) = RM
  generalize hQQ : MQ below (QW (S := Unit) (dC, dI) vwCl A (fun u => none) (fun u => [(f0, .inl (cI, N, .inl (zA (zf g (N : Int) v))))]) (fun u => True)) args s 0 0 A = QQ
  have cut5 : ∀ (nM : Nat) (i : Int) (cur : Int → Int),  (((N : Int) - i).toNat) < nM → (0 ≤ i ∧ i ≤ (N : Int)) → (cur = zf g i v) → ∀ (H : Heap) (locs : List Loc), va_P (dC, dI) vwCl [(f0, .inl (cI, N, .inl (zA cur)))] H → va_D A [(f0, .inl (cI, N, .inl (zA cur)))] → va_S A s.heap H locs → ∀ ls : Array Slot, lv_has ls 4 [(0, .ref f0), (1, .int (zI v)), (2, .int (zI i)), (3, .int (zI ((N : Int))))] → W p l e RM s m args below meth c H locs 0 0 QQ (F0 m 5 ls []) := by
    intro nM
    induction nM with
    | zero => intro i cur hmu; exact absurd hmu (Nat.not_lt_zero _)
    | succ nM ih5 =>
      intro i cur hmu hi hc H locs hP hD hS ls hl
      refine lv_iload_n hx hb dJ7_fill_53178_5 rfl (lv_at hl 2 rfl) ?_
      refine lv_iload_n hx hb dJ7_fill_53178_6 rfl (lv_at hl 3 rfl) ?_
      refine zv_icmp_ge (tgt := 20) hx hb (by omega) (by omega) dJ7_fill_53178_7 (by decide) (fun c_7 => ?_) (fun c_7 => ?_)
      · have hP : va_P (dC, dI) vwCl [(f0, .inl (cI, N, .inl (zA (zf g (N : Int) v))))] H := by rw [hc, show i = (N : Int) by omega] at hP; exact hP
        rw [← hQQ]
        exact zw_vret hx hb hr hlocks () rfl trivial hP hS dJ7_fill_53178_20
      · refine lv_aload_n hx hb dJ7_fill_53178_10 rfl (lv_at hl 0 rfl) ?_
        refine lv_iload_n hx hb dJ7_fill_53178_11 rfl (lv_at hl 2 rfl) ?_
        refine lv_iload_n hx hb dJ7_fill_53178_12 rfl (lv_at hl 1 rfl) ?_
        refine zv_iast (ws' := [(f0, .inl (cI, N, .inl (zA (zu cur i v))))]) hx hb hK hP hD hS 0 0 rfl rfl (by omega) rfl dJ7_fill_53178_13 (fun H locs hP hD hS => ?_)
        refine zv_iinc (k := 2) (a := i) (n := 1) (lv' := [(2, .int (zI (i + 1))), (0, .ref f0), (1, .int (zI v)), (3, .int (zI ((N : Int))))]) hx hb dJ7_fill_53178_14 hl rfl (by decide) rfl (fun ls hl => ?_)
        refine lv_goto (tgt := 5) hx hb dJ7_fill_53178_17 (by decide) ?_
        exact ih5 (i + 1) (zu cur i v) (by omega) (by omega) (by rw [hc]; exact zf_s (by omega)) _ _ hP hD hS _ (lv_sub hl [1, 2, 0, 3] rfl)
  refine zv_iconst hx hb dJ7_fill_53178_0 ?_
  refine lv_istore_n (lv' := [(2, .int (zI 0)), (0, .ref f0), (1, .int (zI v))]) hx hb dJ7_fill_53178_1 rfl hl (by decide) rfl (fun ls hl => ?_)
  refine lv_aload_n hx hb dJ7_fill_53178_2 rfl (lv_at hl 1 rfl) ?_
  refine va_alen (v := zI (N : Int)) hx hb hK hP 0 0 rfl rfl (zI_n _).symm dJ7_fill_53178_3 ?_
  refine lv_istore_n (lv' := [(3, .int (zI ((N : Int)))), (2, .int (zI 0)), (0, .ref f0), (1, .int (zI v))]) hx hb dJ7_fill_53178_4 rfl hl (by decide) rfl (fun ls hl => ?_)
  exact cut5 _ 0 g (Nat.lt_succ_self _) (by omega) (by exact zf_0.symm) _ _ hP hD hS _ (lv_sub hl [2, 3, 1, 0] rfl)
set_option maxHeartbeats 4000000 in
set_option maxRecDepth 100000 in
theorem c_X1_atPart (l : Launch) (dC : Nat → ClassId) (dI : Nat → Nat → Nat) (cI cB cZ : ClassId) (p0 : Nat) (p1 : Nat) (p2 : Nat) (sg : Int) (lo : Int) (li : Int) (kn : Int) (al : Int → Int) (ah : Int → Int) (k : Int) (hk : -2147483648 ≤ k ∧ k ≤ 2147483647) : MetR l yX1_atPart wsX1_atPart ({ frames := 0, cells := 0, slots := 0, locals := 0 }) (dC, dI) vwCl (zT cI cB cZ) zN [(p0, .inr (1, [.int (zI sg), .int (zI lo), .int (zI li), .int (zI kn), .ref p1, .ref p2])), (p1, .inl (cI, 9, .inl (zA al))), (p2, .inl (cI, 20, .inl (zA ah)))] [.ref p0, .int (zI k)] (zI (if 0 ≤ k ∧ k < 9 then al k else 0)) := by
  refine MetR.intro (cc := cX1_atPart) (maxL := 2) (ret := (some .int)) (by decide) rfl (Nat.le_of_ble_eq_true rfl) ?_
  intro p e s m args below meth c hx hb hr hlocks hml hts hown hP hK hE ls hl
  have hown : s.vm.findClass RX1 = some m.cls := hown
  have hl : lv_has ls 2 [(0, .ref p0), (1, .int (zI k))] := hl
  generalize hRM : ({ frames := 0, cells := 0, slots := 0, locals := 0 } : Room) = RM
  generalize hQQ : MQ below (vp_Si (fun r => r = zI (if 0 ≤ k ∧ k < 9 then al k else 0))) args s 0 0 (fun _ => False) = QQ
  have in_X1 : ∀ w ∈ wsX10, w ∈ wsX1_atPart := by decide +kernel
  have w_0 := hts (.fieldLink RX1 15 "WallMarbles$Present" "atLandings" "[I") (by decide +kernel)
  refine lv_iload_n hx hb dX1_atPart_0 rfl (lv_at hl 1 rfl) ?_
  refine zv_if_lt (tgt := 19) hx hb (by omega) dX1_atPart_1 (by decide) (fun c_1 => ?_) (fun c_1 => ?_)
  · refine zv_iconst hx hb dX1_atPart_19 ?_
    rw [← hQQ]
    exact zr_iret hx hb hr hlocks (congrArg zI (show 0 = if 0 ≤ k ∧ k < 9 then al k else 0 from by first | exact (if_pos (by omega)).symm | exact (if_neg (by omega)).symm)) dX1_atPart_20
  · refine lv_iload_n hx hb dX1_atPart_4 rfl (lv_at hl 1 rfl) ?_
    refine zv_bipush hx hb dX1_atPart_5 (by decide +kernel) ?_
    refine zv_icmp_ge (tgt := 19) hx hb (by omega) (by omega) dX1_atPart_7 (by decide) (fun c_7 => ?_) (fun c_7 => ?_)
    · refine zv_iconst hx hb dX1_atPart_19 ?_
      rw [← hQQ]
      exact zr_iret hx hb hr hlocks (congrArg zI (show 0 = if 0 ≤ k ∧ k < 9 then al k else 0 from by first | exact (if_pos (by omega)).symm | exact (if_neg (by omega)).symm)) dX1_atPart_20
    · refine lv_aload_n hx hb dX1_atPart_10 rfl (lv_at hl 0 rfl) ?_
      refine va_get (D := (dC, dI)) (ci := 1) (v := .ref p1) (C := RX1) (T := TX1) (N := 6) hx hb hts in_X1 hown hK hP 0 rfl rfl 4 (by decide) w_0 (fun _ h9 => h9) rfl dX1_atPart_11 ?_
      refine lv_iload_n hx hb dX1_atPart_14 rfl (lv_at hl 1 rfl) ?_
      refine zv_iald hx hb hK hP 1 0 rfl rfl (by omega) dX1_atPart_15 ?_
      refine lv_goto (tgt := 20) hx hb dX1_atPart_16 (by decide) ?_
      rw [← hQQ]
      exact zr_iret hx hb hr hlocks (congrArg zI (show al k = if 0 ≤ k ∧ k < 9 then al k else 0 from by first | exact (if_pos (by omega)).symm | exact (if_neg (by omega)).symm)) dX1_atPart_20
set_option maxHeartbeats 4000000 in
set_option maxRecDepth 100000 in
theorem c_X1_atAll (l : Launch) (dC : Nat → ClassId) (dI : Nat → Nat → Nat) (cI cB cZ : ClassId) (p0 : Nat) (p1 : Nat) (p2 : Nat) (sg : Int) (lo : Int) (li : Int) (kn : Int) (al : Int → Int) (ah : Int → Int)  : MetR l yX1_atAll wsX1_atAll ({ frames := 0, cells := 0, slots := 0, locals := 0 }) (dC, dI) vwCl (zT cI cB cZ) zN [(p0, .inr (1, [.int (zI sg), .int (zI lo), .int (zI li), .int (zI kn), .ref p1, .ref p2])), (p1, .inl (cI, 9, .inl (zA al))), (p2, .inl (cI, 20, .inl (zA ah)))] [.ref p0] (zI (sF al 9)) := by
  refine MetR.intro (cc := cX1_atAll) (maxL := 3) (ret := (some .int)) (by decide) rfl (Nat.le_of_ble_eq_true rfl) ?_
  intro p e s m args below meth c hx hb hr hlocks hml hts hown hP hK hE ls hl
  have hown : s.vm.findClass RX1 = some m.cls := hown
  have hl : lv_has ls 3 [(0, .ref p0)] := hl
  generalize hRM : ({ frames := 0, cells := 0, slots := 0, locals := 0 } : Room) = RM
  generalize hQQ : MQ below (vp_Si (fun r => r = zI (sF al 9))) args s 0 0 (fun _ => False) = QQ
  have in_X1 : ∀ w ∈ wsX10, w ∈ wsX1_atAll := by decide +kernel
  have w_0 := hts (.fieldLink RX1 15 "WallMarbles$Present" "atLandings" "[I") (by decide +kernel)
  have cut4 : ∀ (nM : Nat) (k : Int) (acc : Int),  ((9 - k).toNat) < nM → (0 ≤ k ∧ k ≤ 9) → (acc = sF al k.toNat) → ∀ ls : Array Slot, lv_has ls 3 [(0, .ref p0), (1, .int (zI acc)), (2, .int (zI k))] → W p l e RM s m args below meth c s.heap [] 0 0 QQ (F0 m 4 ls []) := by
    intro nM
    induction nM with
    | zero => intro k acc hmu; exact absurd hmu (Nat.not_lt_zero _)
    | succ nM ih4 =>
      intro k acc hmu hk hac ls hl
      refine lv_iload_n hx hb dX1_atAll_4 rfl (lv_at hl 2 rfl) ?_
      refine zv_bipush hx hb dX1_atAll_5 (by decide +kernel) ?_
      refine zv_icmp_ge (tgt := 25) hx hb (by omega) (by omega) dX1_atAll_7 (by decide) (fun c_7 => ?_) (fun c_7 => ?_)
      · refine lv_iload_n hx hb dX1_atAll_25 rfl (lv_at hl 1 rfl) ?_
        rw [← hQQ]
        exact zr_iret hx hb hr hlocks (congrArg zI (show acc = sF al 9 from by rw [hac, show k = 9 by omega]; rfl)) dX1_atAll_26
      · refine lv_iload_n hx hb dX1_atAll_10 rfl (lv_at hl 1 rfl) ?_
        refine lv_aload_n hx hb dX1_atAll_11 rfl (lv_at hl 0 rfl) ?_
        refine va_get (D := (dC, dI)) (ci := 1) (v := .ref p1) (C := RX1) (T := TX1) (N := 6) hx hb hts in_X1 hown hK hP 0 rfl rfl 4 (by decide) w_0 (fun _ h9 => h9) rfl dX1_atAll_12 ?_
        refine lv_iload_n hx hb dX1_atAll_15 rfl (lv_at hl 2 rfl) ?_
        refine zv_iald hx hb hK hP 1 0 rfl rfl (by omega) dX1_atAll_16 ?_
        refine zv_iadd hx hb dX1_atAll_17 ?_
        refine lv_istore_n (lv' := [(1, .int (zI (acc + (al k)))), (0, .ref p0), (2, .int (zI k))]) hx hb dX1_atAll_18 rfl hl (by decide) rfl (fun ls hl => ?_)
        refine zv_iinc (k := 2) (a := k) (n := 1) (lv' := [(2, .int (zI (k + 1))), (1, .int (zI (acc + (al k)))), (0, .ref p0)]) hx hb dX1_atAll_19 hl rfl (by decide) rfl (fun ls hl => ?_)
        refine lv_goto (tgt := 4) hx hb dX1_atAll_22 (by decide) ?_
        exact ih4 (k + 1) (acc + (al k)) (by omega) (by omega) (by rw [sF_s _ (by omega), ← hac]) _ (lv_sub hl [2, 1, 0] rfl)
  refine zv_iconst hx hb dX1_atAll_0 ?_
  refine lv_istore_n (lv' := [(1, .int (zI 0)), (0, .ref p0)]) hx hb dX1_atAll_1 rfl hl (by decide) rfl (fun ls hl => ?_)
  refine zv_iconst hx hb dX1_atAll_2 ?_
  refine lv_istore_n (lv' := [(2, .int (zI 0)), (1, .int (zI 0)), (0, .ref p0)]) hx hb dX1_atAll_3 rfl hl (by decide) rfl (fun ls hl => ?_)
  exact cut4 _ 0 0 (Nat.lt_succ_self _) (by omega) (by rfl) _ (lv_sub hl [2, 1, 0] rfl)
set_option maxHeartbeats 4000000 in
set_option maxRecDepth 100000 in
theorem c_X1_changeAt (l : Launch) (dC : Nat → ClassId) (dI : Nat → Nat → Nat) (cI cB cZ : ClassId) (p0 : Nat) (p1 : Nat) (p2 : Nat) (sg : Int) (lo : Int) (li : Int) (kn : Int) (al : Int → Int) (ah : Int → Int) (k : Int) (b : Int) (hk : k = -9 ∨ (0 ≤ k ∧ k ≤ 8)) : MetW (S := (Int → Int)) l yX1_changeAt wsX1_changeAt ({ frames := 0, cells := 0, slots := 0, locals := 0 }) (dC, dI) vwCl (zT cI cB cZ) zN [(p0, .inr (1, [.int (zI sg), .int (zI lo), .int (zI li), .int (zI kn), .ref p1, .ref p2])), (p1, .inl (cI, 9, .inl (zA al))), (p2, .inl (cI, 20, .inl (zA ah)))] [.ref p0, .int (zI k), .int (zI b)] (fun u => none) (fun u => [(p0, .inr (1, [.int (zI sg), .int (zI lo), .int (zI li), .int (zI kn), .ref p1, .ref p2])), (p1, .inl (cI, 9, .inl (zA u))), (p2, .inl (cI, 20, .inl (zA ah)))]) (fun u => (u = aUp al k b)) := by
  refine MetW.intro (cc := cX1_changeAt) (maxL := 3) (ret := none) (by decide) rfl (Nat.le_of_ble_eq_true rfl) ?_
  intro p e s m args below meth c A hx hb hr hlocks hml hts hown hP hK hD hS hA hE ls hl
  have hown : s.vm.findClass RX1 = some m.cls := hown
  have hl : lv_has ls 3 [(0, .ref p0), (1, .int (zI k)), (2, .int (zI b))] := hl
  generalize hRM : ({ frames := 0, cells := 0, slots := 0, locals := 0 } : Room) = RM
  generalize hQQ : MQ below (QW (S := (Int → Int)) (dC, dI) vwCl A (fun u => none) (fun u => [(p0, .inr (1, [.int (zI sg), .int (zI lo), .int (zI li), .int (zI kn), .ref p1, .ref p2])), (p1, .inl (cI, 9, .inl (zA u))), (p2, .inl (cI, 20, .inl (zA ah)))]) (fun u => (u = aUp al k b))) args s 0 0 A = QQ
  have in_X1 : ∀ w ∈ wsX10, w ∈ wsX1_changeAt := by decide +kernel
  have w_0 := hts (.fieldLink RX1 15 "WallMarbles$Present" "atLandings" "[I") (by decide +kernel)
  refine lv_iload_n hx hb dX1_changeAt_0 rfl (lv_at hl 1 rfl) ?_
  refine zv_if_lt (tgt := 20) hx hb (by omega) dX1_changeAt_1 (by decide) (fun c_1 => ?_) (fun c_1 => ?_)
  · rw [← hQQ]
    exact zw_vret hx hb hr hlocks (al) rfl (by unfold aUp; first | exact (if_pos (by omega)).symm | exact (if_neg (by omega)).symm) hP hS dX1_changeAt_20
  · refine lv_iload_n hx hb dX1_changeAt_4 rfl (lv_at hl 1 rfl) ?_
    refine zv_bipush hx hb dX1_changeAt_5 (by decide +kernel) ?_
    refine zv_icmp_ge (tgt := 20) hx hb (by omega) (by omega) dX1_changeAt_7 (by decide) (fun c_7 => ?_) (fun c_7 => ?_)
    · exfalso; omega
    · refine lv_aload_n hx hb dX1_changeAt_10 rfl (lv_at hl 0 rfl) ?_
      refine va_get (D := (dC, dI)) (ci := 1) (v := .ref p1) (C := RX1) (T := TX1) (N := 6) hx hb hts in_X1 hown hK hP 0 rfl rfl 4 (by decide) w_0 (fun _ h9 => h9) rfl dX1_changeAt_11 ?_
      refine lv_iload_n hx hb dX1_changeAt_14 rfl (lv_at hl 1 rfl) ?_
      refine lv_dup2_11 hx hb dX1_changeAt_15 rfl rfl ?_
      refine zv_iald hx hb hK hP 1 0 rfl rfl (by omega) dX1_changeAt_16 ?_
      refine lv_iload_n hx hb dX1_changeAt_17 rfl (lv_at hl 2 rfl) ?_
      refine zv_iadd hx hb dX1_changeAt_18 ?_
      refine zv_iast (ws' := [(p0, .inr (1, [.int (zI sg), .int (zI lo), .int (zI li), .int (zI kn), .ref p1, .ref p2])), (p1, .inl (cI, 9, .inl (zA (zu al k ((al k) + b))))), (p2, .inl (cI, 20, .inl (zA ah)))]) hx hb hK hP hD hS 1 0 rfl rfl (by omega) rfl dX1_changeAt_19 (fun H locs hP hD hS => ?_)
      rw [← hQQ]
      exact zw_vret hx hb hr hlocks ((zu al k ((al k) + b))) rfl (by unfold aUp; first | exact (if_pos (by omega)).symm | exact (if_neg (by omega)).symm) hP hS dX1_changeAt_20
set_option maxHeartbeats 4000000 in
set_option maxRecDepth 100000 in
theorem c_X1_take (l : Launch) (dC : Nat → ClassId) (dI : Nat → Nat → Nat) (cI cB cZ : ClassId) (p0 : Nat) (p1 : Nat) (p2 : Nat) (st : Int → Int) (lo : Int) (li : Int) (kn : Int) (al : Int → Int) (ah : Int → Int) (s2 : Int → Int) (c2 : Int) (h7 : s7 st) (g7 : s7 s2) (hc : c2 = -9 ∨ (0 ≤ c2 ∧ c2 ≤ 8)) (hkn : 0 ≤ kn ∧ kn ≤ 20) : MetW (S := (Int → Int) × (Int → Int) × (Int)) l yX1_take wsX1_take ({ frames := 1, cells := 0, slots := 0, locals := 40 }) (dC, dI) vwCl (zT cI cB cZ) zN [(p0, .inr (1, [.int (zI (pk st)), .int (zI lo), .int (zI li), .int (zI kn), .ref p1, .ref p2])), (p1, .inl (cI, 9, .inl (zA al))), (p2, .inl (cI, 20, .inl (zA ah)))] [.ref p0, .int (zI (oc (pk s2) c2))] (fun u => none) (fun u => [(p0, .inr (1, [.int (zI (pk s2)), .int (zI lo), .int (zI (li + 1)), .int (zI u.2.2), .ref p1, .ref p2])), (p1, .inl (cI, 9, .inl (zA u.1))), (p2, .inl (cI, 20, .inl (zA u.2.1)))]) (fun u => (u.1 = aUp al c2 1) ∧ (u.2.1 = zu (if kn < 20 then ah else zc ah ah 1 0 19) (if kn < 20 then kn else 19) (oc (pk st) c2)) ∧ (u.2.2 = (if kn < 20 then kn else 19) + 1)) := by
  refine MetW.intro (cc := cX1_take) (maxL := 3) (ret := none) (by decide) rfl (Nat.le_of_ble_eq_true rfl) ?_
  intro p e s m args below meth c A hx hb hr hlocks hml hts hown hP hK hD hS hA hE ls hl
  have hown : s.vm.findClass RX1 = some m.cls := hown
  have hl : lv_has ls 3 [(0, .ref p0), (1, .int (zI (oc (pk s2) c2)))] := hl
  generalize hRM : ({ frames := 1, cells := 0, slots := 0, locals := 40 } : Room) = RM
  generalize hQQ : MQ below (QW (S := (Int → Int) × (Int → Int) × (Int)) (dC, dI) vwCl A (fun u => none) (fun u => [(p0, .inr (1, [.int (zI (pk s2)), .int (zI lo), .int (zI (li + 1)), .int (zI u.2.2), .ref p1, .ref p2])), (p1, .inl (cI, 9, .inl (zA u.1))), (p2, .inl (cI, 20, .inl (zA u.2.1)))]) (fun u => (u.1 = aUp al c2 1) ∧ (u.2.1 = zu (if kn < 20 then ah else zc ah ah 1 0 19) (if kn < 20 then kn else 19) (oc (pk st) c2)) ∧ (u.2.2 = (if kn < 20 then kn else 19) + 1))) args s 0 0 A = QQ
  have in_X1 : ∀ w ∈ wsX10, w ∈ wsX1_take := by decide +kernel
  have w_0 := hts (.fieldLink RX1 28 "WallMarbles$Present" "known" "I") (by decide +kernel)
  have w_1 := hts (.fieldLink RX1 19 "WallMarbles$Present" "ahead" "[I") (by decide +kernel)
  have w_2 := hts (.fieldLink RX1 22 "WallMarbles$Present" "standing" "I") (by decide +kernel)
  have w_3 := hts (.fieldLink RX1 25 "WallMarbles$Present" "letIn" "I") (by decide +kernel)
  have w_4 := hts (.methodLink RX1 37 arraycopyName) (by decide +kernel)
  have w_5 := hts (.native arraycopyName) (by decide +kernel)
  have w_6 := hts (.static arraycopyName) (by decide +kernel)
  have w_7 := hts (.initialized "java/lang/System") (by decide +kernel)
  refine lv_iload_n hx hb dX1_take_0 rfl (lv_at hl 1 rfl) ?_
  refine zv_callRS (As := [.int (zI (oc (pk s2) c2))]) (rest := []) ⟨hx, hb, hml, hown, hts⟩ (c_X2_comesOf l dC dI cI cB cZ s2 c2 (by omega) (by omega)) (va_cwS 1 hts gX1_take_X2_comesOf rfl rfl rfl (by decide +kernel) ⟨by rw [← hRM]; first | decide | (dsimp only; omega), by rw [← hRM]; first | decide | (dsimp only; omega)⟩) hP hK [] rfl [0, 1, 2] rfl zN_bl (zN_go hE) rfl hl.1 rfl (Nat.le_of_ble_eq_true rfl) dX1_take_1 ⟨Nat.zero_le _, Nat.zero_le _⟩ ?_
  refine lv_istore_n (lv' := [(2, .int (zI c2)), (0, .ref p0), (1, .int (zI (oc (pk s2) c2)))]) hx hb dX1_take_4 rfl hl (by decide) rfl (fun ls hl => ?_)
  refine lv_aload_n hx hb dX1_take_5 rfl (lv_at hl 1 rfl) ?_
  refine va_get (D := (dC, dI)) (ci := 1) (v := .int (zI kn)) (C := RX1) (T := TX1) (N := 6) hx hb hts in_X1 hown hK hP 0 rfl rfl 3 (by decide) w_0 (fun _ h9 => h9) rfl dX1_take_6 ?_
  refine zv_bipush hx hb dX1_take_9 (by decide +kernel) ?_
  refine zv_icmp_lt (tgt := 35) hx hb (by omega) (by omega) dX1_take_11 (by decide) (fun c_11 => ?_) (fun c_11 => ?_)
  · refine lv_aload_n hx hb dX1_take_35 rfl (lv_at hl 1 rfl) ?_
    refine va_get (D := (dC, dI)) (ci := 1) (v := .int (zI kn)) (C := RX1) (T := TX1) (N := 6) hx hb hts in_X1 hown hK hP 0 rfl rfl 3 (by decide) w_0 (fun _ h9 => h9) rfl dX1_take_36 ?_
    refine zv_if_lt (tgt := 69) hx hb (by omega) dX1_take_39 (by decide) (fun c_39 => ?_) (fun c_39 => ?_)
    · exfalso; omega
    · refine lv_aload_n hx hb dX1_take_42 rfl (lv_at hl 1 rfl) ?_
      refine va_get (D := (dC, dI)) (ci := 1) (v := .ref p2) (C := RX1) (T := TX1) (N := 6) hx hb hts in_X1 hown hK hP 0 rfl rfl 5 (by decide) w_1 (fun _ h9 => h9) rfl dX1_take_43 ?_
      refine lv_aload_n hx hb dX1_take_46 rfl (lv_at hl 1 rfl) ?_
      refine va_get (D := (dC, dI)) (ci := 1) (v := .int (zI kn)) (C := RX1) (T := TX1) (N := 6) hx hb hts in_X1 hown hK hP 0 rfl rfl 3 (by decide) w_0 (fun _ h9 => h9) rfl dX1_take_47 ?_
      refine lv_aload_n hx hb dX1_take_50 rfl (lv_at hl 1 rfl) ?_
      refine va_get (D := (dC, dI)) (ci := 1) (v := .int (zI (pk st))) (C := RX1) (T := TX1) (N := 6) hx hb hts in_X1 hown hK hP 0 rfl rfl 0 (by decide) w_2 (fun _ h9 => h9) rfl dX1_take_51 ?_
      refine lv_iload_n hx hb dX1_take_54 rfl (lv_at hl 0 rfl) ?_
      refine zv_callRS (As := [.int (zI (pk st)), .int (zI c2)]) (rest := [.int (zI kn), .ref p2]) ⟨hx, hb, hml, hown, hts⟩ (c_X2_outcome l dC dI cI cB cZ st c2 (by omega) (by omega)) (va_cwS 2 hts gX1_take_X2_outcome rfl rfl rfl (by decide +kernel) ⟨by rw [← hRM]; first | decide | (dsimp only; omega), by rw [← hRM]; first | decide | (dsimp only; omega)⟩) hP hK [] rfl [0, 1, 2] rfl zN_bl (zN_go hE) rfl hl.1 rfl (Nat.le_of_ble_eq_true rfl) dX1_take_55 ⟨Nat.zero_le _, Nat.zero_le _⟩ ?_
      refine zv_iast (ws' := [(p0, .inr (1, [.int (zI (pk st)), .int (zI lo), .int (zI li), .int (zI kn), .ref p1, .ref p2])), (p1, .inl (cI, 9, .inl (zA al))), (p2, .inl (cI, 20, .inl (zA (zu ah kn (oc (pk st) c2)))))]) hx hb hK hP hD hS 2 0 rfl rfl (by omega) rfl dX1_take_58 (fun H locs hP hD hS => ?_)
      refine lv_aload_n hx hb dX1_take_59 rfl (lv_at hl 1 rfl) ?_
      refine lv_dup hx hb dX1_take_60 rfl ?_
      refine va_get (D := (dC, dI)) (ci := 1) (v := .int (zI kn)) (C := RX1) (T := TX1) (N := 6) hx hb hts in_X1 hown hK hP 0 rfl rfl 3 (by decide) w_0 (fun _ h9 => h9) rfl dX1_take_61 ?_
      refine zv_iconst hx hb dX1_take_64 ?_
      refine zv_iadd hx hb dX1_take_65 ?_
      refine va_put (D := (dC, dI)) (ci := 1) (v := .int (zI (kn + 1))) (ty := .int) (C := RX1) (T := TX1) (N := 6) hx hb hts in_X1 tyX1 tyX1_ok nmX1 hown hK hP hD hS 0 rfl rfl 3 (by decide) w_0 (fun _ h9 => h9) rfl (by decide +kernel) rfl rfl (Nat.le_of_ble_eq_true rfl) dX1_take_66 (fun H locs hP hD hS => ?_)
      have hP : va_P (dC, dI) vwCl [(p0, .inr (1, [.int (zI (pk st)), .int (zI lo), .int (zI li), .int (zI (kn + 1)), .ref p1, .ref p2])), (p1, .inl (cI, 9, .inl (zA al))), (p2, .inl (cI, 20, .inl (zA (zu ah kn (oc (pk st) c2)))))] H := hP
      have hD : va_D A [(p0, .inr (1, [.int (zI (pk st)), .int (zI lo), .int (zI li), .int (zI (kn + 1)), .ref p1, .ref p2])), (p1, .inl (cI, 9, .inl (zA al))), (p2, .inl (cI, 20, .inl (zA (zu ah kn (oc (pk st) c2)))))] := hD
      refine lv_aload_n hx hb dX1_take_69 rfl (lv_at hl 1 rfl) ?_
      refine lv_iload_n hx hb dX1_take_70 rfl (lv_at hl 0 rfl) ?_
      refine zv_iconst hx hb dX1_take_71 ?_
      refine zv_callWV (As := [.int (zI c2), .int (zI 1)]) (rest := []) (ws2 := fun u => [(p0, .inr (1, [.int (zI ((pk st))), .int (zI lo), .int (zI li), .int (zI ((kn + 1))), .ref p1, .ref p2])), (p1, .inl (cI, 9, .inl (zA u))), (p2, .inl (cI, 20, .inl (zA ((zu ah kn (oc (pk st) c2))))))]) ⟨hx, hb, hml, hown, hts⟩ (c_X1_changeAt l dC dI cI cB cZ p0 p1 p2 (pk st) lo li (kn + 1) al (zu ah kn (oc (pk st) c2)) c2 1 (by omega)) (cwV 2 hts gX1_take_X1_changeAt rfl rfl rfl (by decide +kernel) ⟨by rw [← hRM]; first | decide | (dsimp only; omega), by rw [← hRM]; first | decide | (dsimp only; omega)⟩) hP hD hS hA hK [0, 1, 2] rfl (by decide) [0, 1, 2] rfl zN_bl (zN_go hE) (fun _ => rfl) (fun _ => rfl) (q0 := 0) rfl rfl rfl rfl hl.1 rfl (Nat.le_of_ble_eq_true rfl) dX1_take_72 ⟨Nat.zero_le _, Nat.zero_le _⟩ (fun u H locs hpo hP hD hS => ?_)
      obtain ⟨al2_72, rfl⟩ : ∃ z, z = u := ⟨_, rfl⟩
      have hp0_72 : al2_72 = aUp al c2 1 := hpo
      have hP : va_P (dC, dI) vwCl [(p0, .inr (1, [.int (zI ((pk st))), .int (zI lo), .int (zI li), .int (zI ((kn + 1))), .ref p1, .ref p2])), (p1, .inl (cI, 9, .inl (zA al2_72))), (p2, .inl (cI, 20, .inl (zA ((zu ah kn (oc (pk st) c2))))))] H := hP
      have hD : va_D A [(p0, .inr (1, [.int (zI ((pk st))), .int (zI lo), .int (zI li), .int (zI ((kn + 1))), .ref p1, .ref p2])), (p1, .inl (cI, 9, .inl (zA al2_72))), (p2, .inl (cI, 20, .inl (zA ((zu ah kn (oc (pk st) c2))))))] := hD
      refine W.eq (g2 := F0 m 75 ls []) rfl ?_
      refine lv_aload_n hx hb dX1_take_75 rfl (lv_at hl 1 rfl) ?_
      refine lv_iload_n hx hb dX1_take_76 rfl (lv_at hl 2 rfl) ?_
      refine zv_callRS (As := [.int (zI (oc (pk s2) c2))]) (rest := [.ref p0]) ⟨hx, hb, hml, hown, hts⟩ (c_X2_standingOf l dC dI cI cB cZ s2 c2 (by omega) (by omega)) (va_cwS 1 hts gX1_take_X2_standingOf rfl rfl rfl (by decide +kernel) ⟨by rw [← hRM]; first | decide | (dsimp only; omega), by rw [← hRM]; first | decide | (dsimp only; omega)⟩) hP hK [] rfl [0, 1, 2] rfl zN_bl (zN_go hE) rfl hl.1 rfl (Nat.le_of_ble_eq_true rfl) dX1_take_77 ⟨Nat.zero_le _, Nat.zero_le _⟩ ?_
      refine va_put (D := (dC, dI)) (ci := 1) (v := .int (zI (pk s2))) (ty := .int) (C := RX1) (T := TX1) (N := 6) hx hb hts in_X1 tyX1 tyX1_ok nmX1 hown hK hP hD hS 0 rfl rfl 0 (by decide) w_2 (fun _ h9 => h9) rfl (by decide +kernel) rfl rfl (Nat.le_of_ble_eq_true rfl) dX1_take_80 (fun H locs hP hD hS => ?_)
      have hP : va_P (dC, dI) vwCl [(p0, .inr (1, [.int (zI (pk s2)), .int (zI lo), .int (zI li), .int (zI ((kn + 1))), .ref p1, .ref p2])), (p1, .inl (cI, 9, .inl (zA al2_72))), (p2, .inl (cI, 20, .inl (zA ((zu ah kn (oc (pk st) c2))))))] H := hP
      have hD : va_D A [(p0, .inr (1, [.int (zI (pk s2)), .int (zI lo), .int (zI li), .int (zI ((kn + 1))), .ref p1, .ref p2])), (p1, .inl (cI, 9, .inl (zA al2_72))), (p2, .inl (cI, 20, .inl (zA ((zu ah kn (oc (pk st) c2))))))] := hD
      refine lv_aload_n hx hb dX1_take_83 rfl (lv_at hl 1 rfl) ?_
      refine lv_dup hx hb dX1_take_84 rfl ?_
      refine va_get (D := (dC, dI)) (ci := 1) (v := .int (zI li)) (C := RX1) (T := TX1) (N := 6) hx hb hts in_X1 hown hK hP 0 rfl rfl 2 (by decide) w_3 (fun _ h9 => h9) rfl dX1_take_85 ?_
      refine zv_iconst hx hb dX1_take_88 ?_
      refine zv_iadd hx hb dX1_take_89 ?_
      refine va_put (D := (dC, dI)) (ci := 1) (v := .int (zI (li + 1))) (ty := .int) (C := RX1) (T := TX1) (N := 6) hx hb hts in_X1 tyX1 tyX1_ok nmX1 hown hK hP hD hS 0 rfl rfl 2 (by decide) w_3 (fun _ h9 => h9) rfl (by decide +kernel) rfl rfl (Nat.le_of_ble_eq_true rfl) dX1_take_90 (fun H locs hP hD hS => ?_)
      have hP : va_P (dC, dI) vwCl [(p0, .inr (1, [.int (zI (pk s2)), .int (zI lo), .int (zI (li + 1)), .int (zI ((kn + 1))), .ref p1, .ref p2])), (p1, .inl (cI, 9, .inl (zA al2_72))), (p2, .inl (cI, 20, .inl (zA ((zu ah kn (oc (pk st) c2))))))] H := hP
      have hD : va_D A [(p0, .inr (1, [.int (zI (pk s2)), .int (zI lo), .int (zI (li + 1)), .int (zI ((kn + 1))), .ref p1, .ref p2])), (p1, .inl (cI, 9, .inl (zA al2_72))), (p2, .inl (cI, 20, .inl (zA ((zu ah kn (oc (pk st) c2))))))] := hD
      rw [← hQQ]
      exact zw_vret hx hb hr hlocks (al2_72, (zu ah kn (oc (pk st) c2)), (kn + 1)) rfl ⟨(by assumption), (by first | (rw [if_pos (by omega), if_pos (by omega)]) | (rw [if_neg (by omega), if_neg (by omega)])), (by first | (rw [if_pos (by omega)]) | (rw [if_neg (by omega)]))⟩ hP hS dX1_take_93
  · refine lv_aload_n hx hb dX1_take_14 rfl (lv_at hl 1 rfl) ?_
    refine va_get (D := (dC, dI)) (ci := 1) (v := .ref p2) (C := RX1) (T := TX1) (N := 6) hx hb hts in_X1 hown hK hP 0 rfl rfl 5 (by decide) w_1 (fun _ h9 => h9) rfl dX1_take_15 ?_
    refine zv_iconst hx hb dX1_take_18 ?_
    refine lv_aload_n hx hb dX1_take_19 rfl (lv_at hl 1 rfl) ?_
    refine va_get (D := (dC, dI)) (ci := 1) (v := .ref p2) (C := RX1) (T := TX1) (N := 6) hx hb hts in_X1 hown hK hP 0 rfl rfl 5 (by decide) w_1 (fun _ h9 => h9) rfl dX1_take_20 ?_
    refine zv_iconst hx hb dX1_take_23 ?_
    refine zv_bipush hx hb dX1_take_24 (by decide +kernel) ?_
    refine zv_copy (ws' := [(p0, .inr (1, [.int (zI (pk st)), .int (zI lo), .int (zI li), .int (zI kn), .ref p1, .ref p2])), (p1, .inl (cI, 9, .inl (zA al))), (p2, .inl (cI, 20, .inl (zA (zc ah ah 1 0 19))))]) hx hb (hml.trans hl.1.symm) hown w_4 w_5 w_6 w_7 hK hP hD hS 2 2 0 rfl rfl rfl (by omega) rfl (by rw [← hRM]; decide) (by rw [← hRM]; decide) dX1_take_26 (fun H locs hP hD hS => ?_)
    refine lv_aload_n hx hb dX1_take_29 rfl (lv_at hl 1 rfl) ?_
    refine zv_bipush hx hb dX1_take_30 (by decide +kernel) ?_
    refine va_put (D := (dC, dI)) (ci := 1) (v := .int (zI 19)) (ty := .int) (C := RX1) (T := TX1) (N := 6) hx hb hts in_X1 tyX1 tyX1_ok nmX1 hown hK hP hD hS 0 rfl rfl 3 (by decide) w_0 (fun _ h9 => h9) rfl (by decide +kernel) rfl rfl (Nat.le_of_ble_eq_true rfl) dX1_take_32 (fun H locs hP hD hS => ?_)
    have hP : va_P (dC, dI) vwCl [(p0, .inr (1, [.int (zI (pk st)), .int (zI lo), .int (zI li), .int (zI 19), .ref p1, .ref p2])), (p1, .inl (cI, 9, .inl (zA al))), (p2, .inl (cI, 20, .inl (zA (zc ah ah 1 0 19))))] H := hP
    have hD : va_D A [(p0, .inr (1, [.int (zI (pk st)), .int (zI lo), .int (zI li), .int (zI 19), .ref p1, .ref p2])), (p1, .inl (cI, 9, .inl (zA al))), (p2, .inl (cI, 20, .inl (zA (zc ah ah 1 0 19))))] := hD
    refine lv_aload_n hx hb dX1_take_35 rfl (lv_at hl 1 rfl) ?_
    refine va_get (D := (dC, dI)) (ci := 1) (v := .int (zI 19)) (C := RX1) (T := TX1) (N := 6) hx hb hts in_X1 hown hK hP 0 rfl rfl 3 (by decide) w_0 (fun _ h9 => h9) rfl dX1_take_36 ?_
    refine zv_if_lt (tgt := 69) hx hb (by omega) dX1_take_39 (by decide) (fun c_39 => ?_) (fun c_39 => ?_)
    · exfalso; omega
    · refine lv_aload_n hx hb dX1_take_42 rfl (lv_at hl 1 rfl) ?_
      refine va_get (D := (dC, dI)) (ci := 1) (v := .ref p2) (C := RX1) (T := TX1) (N := 6) hx hb hts in_X1 hown hK hP 0 rfl rfl 5 (by decide) w_1 (fun _ h9 => h9) rfl dX1_take_43 ?_
      refine lv_aload_n hx hb dX1_take_46 rfl (lv_at hl 1 rfl) ?_
      refine va_get (D := (dC, dI)) (ci := 1) (v := .int (zI 19)) (C := RX1) (T := TX1) (N := 6) hx hb hts in_X1 hown hK hP 0 rfl rfl 3 (by decide) w_0 (fun _ h9 => h9) rfl dX1_take_47 ?_
      refine lv_aload_n hx hb dX1_take_50 rfl (lv_at hl 1 rfl) ?_
      refine va_get (D := (dC, dI)) (ci := 1) (v := .int (zI (pk st))) (C := RX1) (T := TX1) (N := 6) hx hb hts in_X1 hown hK hP 0 rfl rfl 0 (by decide) w_2 (fun _ h9 => h9) rfl dX1_take_51 ?_
      refine lv_iload_n hx hb dX1_take_54 rfl (lv_at hl 0 rfl) ?_
      refine zv_callRS (As := [.int (zI (pk st)), .int (zI c2)]) (rest := [.int (zI 19), .ref p2]) ⟨hx, hb, hml, hown, hts⟩ (c_X2_outcome l dC dI cI cB cZ st c2 (by omega) (by omega)) (va_cwS 2 hts gX1_take_X2_outcome rfl rfl rfl (by decide +kernel) ⟨by rw [← hRM]; first | decide | (dsimp only; omega), by rw [← hRM]; first | decide | (dsimp only; omega)⟩) hP hK [] rfl [0, 1, 2] rfl zN_bl (zN_go hE) rfl hl.1 rfl (Nat.le_of_ble_eq_true rfl) dX1_take_55 ⟨Nat.zero_le _, Nat.zero_le _⟩ ?_
      refine zv_iast (ws' := [(p0, .inr (1, [.int (zI (pk st)), .int (zI lo), .int (zI li), .int (zI 19), .ref p1, .ref p2])), (p1, .inl (cI, 9, .inl (zA al))), (p2, .inl (cI, 20, .inl (zA (zu (zc ah ah 1 0 19) 19 (oc (pk st) c2)))))]) hx hb hK hP hD hS 2 0 rfl rfl (by omega) rfl dX1_take_58 (fun H locs hP hD hS => ?_)
      refine lv_aload_n hx hb dX1_take_59 rfl (lv_at hl 1 rfl) ?_
      refine lv_dup hx hb dX1_take_60 rfl ?_
      refine va_get (D := (dC, dI)) (ci := 1) (v := .int (zI 19)) (C := RX1) (T := TX1) (N := 6) hx hb hts in_X1 hown hK hP 0 rfl rfl 3 (by decide) w_0 (fun _ h9 => h9) rfl dX1_take_61 ?_
      refine zv_iconst hx hb dX1_take_64 ?_
      refine zv_iadd hx hb dX1_take_65 ?_
      refine va_put (D := (dC, dI)) (ci := 1) (v := .int (zI (19 + 1))) (ty := .int) (C := RX1) (T := TX1) (N := 6) hx hb hts in_X1 tyX1 tyX1_ok nmX1 hown hK hP hD hS 0 rfl rfl 3 (by decide) w_0 (fun _ h9 => h9) rfl (by decide +kernel) rfl rfl (Nat.le_of_ble_eq_true rfl) dX1_take_66 (fun H locs hP hD hS => ?_)
      have hP : va_P (dC, dI) vwCl [(p0, .inr (1, [.int (zI (pk st)), .int (zI lo), .int (zI li), .int (zI (19 + 1)), .ref p1, .ref p2])), (p1, .inl (cI, 9, .inl (zA al))), (p2, .inl (cI, 20, .inl (zA (zu (zc ah ah 1 0 19) 19 (oc (pk st) c2)))))] H := hP
      have hD : va_D A [(p0, .inr (1, [.int (zI (pk st)), .int (zI lo), .int (zI li), .int (zI (19 + 1)), .ref p1, .ref p2])), (p1, .inl (cI, 9, .inl (zA al))), (p2, .inl (cI, 20, .inl (zA (zu (zc ah ah 1 0 19) 19 (oc (pk st) c2)))))] := hD
      refine lv_aload_n hx hb dX1_take_69 rfl (lv_at hl 1 rfl) ?_
      refine lv_iload_n hx hb dX1_take_70 rfl (lv_at hl 0 rfl) ?_
      refine zv_iconst hx hb dX1_take_71 ?_
      refine zv_callWV (As := [.int (zI c2), .int (zI 1)]) (rest := []) (ws2 := fun u => [(p0, .inr (1, [.int (zI ((pk st))), .int (zI lo), .int (zI li), .int (zI ((19 + 1))), .ref p1, .ref p2])), (p1, .inl (cI, 9, .inl (zA u))), (p2, .inl (cI, 20, .inl (zA ((zu (zc ah ah 1 0 19) 19 (oc (pk st) c2))))))]) ⟨hx, hb, hml, hown, hts⟩ (c_X1_changeAt l dC dI cI cB cZ p0 p1 p2 (pk st) lo li (19 + 1) al (zu (zc ah ah 1 0 19) 19 (oc (pk st) c2)) c2 1 (by omega)) (cwV 2 hts gX1_take_X1_changeAt rfl rfl rfl (by decide +kernel) ⟨by rw [← hRM]; first | decide | (dsimp only; omega), by rw [← hRM]; first | decide | (dsimp only; omega)⟩) hP hD hS hA hK [0, 1, 2] rfl (by decide) [0, 1, 2] rfl zN_bl (zN_go hE) (fun _ => rfl) (fun _ => rfl) (q0 := 0) rfl rfl rfl rfl hl.1 rfl (Nat.le_of_ble_eq_true rfl) dX1_take_72 ⟨Nat.zero_le _, Nat.zero_le _⟩ (fun u H locs hpo hP hD hS => ?_)
      obtain ⟨al2_72, rfl⟩ : ∃ z, z = u := ⟨_, rfl⟩
      have hp0_72 : al2_72 = aUp al c2 1 := hpo
      have hP : va_P (dC, dI) vwCl [(p0, .inr (1, [.int (zI ((pk st))), .int (zI lo), .int (zI li), .int (zI ((19 + 1))), .ref p1, .ref p2])), (p1, .inl (cI, 9, .inl (zA al2_72))), (p2, .inl (cI, 20, .inl (zA ((zu (zc ah ah 1 0 19) 19 (oc (pk st) c2))))))] H := hP
      have hD : va_D A [(p0, .inr (1, [.int (zI ((pk st))), .int (zI lo), .int (zI li), .int (zI ((19 + 1))), .ref p1, .ref p2])), (p1, .inl (cI, 9, .inl (zA al2_72))), (p2, .inl (cI, 20, .inl (zA ((zu (zc ah ah 1 0 19) 19 (oc (pk st) c2))))))] := hD
      refine W.eq (g2 := F0 m 75 ls []) rfl ?_
      refine lv_aload_n hx hb dX1_take_75 rfl (lv_at hl 1 rfl) ?_
      refine lv_iload_n hx hb dX1_take_76 rfl (lv_at hl 2 rfl) ?_
      refine zv_callRS (As := [.int (zI (oc (pk s2) c2))]) (rest := [.ref p0]) ⟨hx, hb, hml, hown, hts⟩ (c_X2_standingOf l dC dI cI cB cZ s2 c2 (by omega) (by omega)) (va_cwS 1 hts gX1_take_X2_standingOf rfl rfl rfl (by decide +kernel) ⟨by rw [← hRM]; first | decide | (dsimp only; omega), by rw [← hRM]; first | decide | (dsimp only; omega)⟩) hP hK [] rfl [0, 1, 2] rfl zN_bl (zN_go hE) rfl hl.1 rfl (Nat.le_of_ble_eq_true rfl) dX1_take_77 ⟨Nat.zero_le _, Nat.zero_le _⟩ ?_
      refine va_put (D := (dC, dI)) (ci := 1) (v := .int (zI (pk s2))) (ty := .int) (C := RX1) (T := TX1) (N := 6) hx hb hts in_X1 tyX1 tyX1_ok nmX1 hown hK hP hD hS 0 rfl rfl 0 (by decide) w_2 (fun _ h9 => h9) rfl (by decide +kernel) rfl rfl (Nat.le_of_ble_eq_true rfl) dX1_take_80 (fun H locs hP hD hS => ?_)
      have hP : va_P (dC, dI) vwCl [(p0, .inr (1, [.int (zI (pk s2)), .int (zI lo), .int (zI li), .int (zI ((19 + 1))), .ref p1, .ref p2])), (p1, .inl (cI, 9, .inl (zA al2_72))), (p2, .inl (cI, 20, .inl (zA ((zu (zc ah ah 1 0 19) 19 (oc (pk st) c2))))))] H := hP
      have hD : va_D A [(p0, .inr (1, [.int (zI (pk s2)), .int (zI lo), .int (zI li), .int (zI ((19 + 1))), .ref p1, .ref p2])), (p1, .inl (cI, 9, .inl (zA al2_72))), (p2, .inl (cI, 20, .inl (zA ((zu (zc ah ah 1 0 19) 19 (oc (pk st) c2))))))] := hD
      refine lv_aload_n hx hb dX1_take_83 rfl (lv_at hl 1 rfl) ?_
      refine lv_dup hx hb dX1_take_84 rfl ?_
      refine va_get (D := (dC, dI)) (ci := 1) (v := .int (zI li)) (C := RX1) (T := TX1) (N := 6) hx hb hts in_X1 hown hK hP 0 rfl rfl 2 (by decide) w_3 (fun _ h9 => h9) rfl dX1_take_85 ?_
      refine zv_iconst hx hb dX1_take_88 ?_
      refine zv_iadd hx hb dX1_take_89 ?_
      refine va_put (D := (dC, dI)) (ci := 1) (v := .int (zI (li + 1))) (ty := .int) (C := RX1) (T := TX1) (N := 6) hx hb hts in_X1 tyX1 tyX1_ok nmX1 hown hK hP hD hS 0 rfl rfl 2 (by decide) w_3 (fun _ h9 => h9) rfl (by decide +kernel) rfl rfl (Nat.le_of_ble_eq_true rfl) dX1_take_90 (fun H locs hP hD hS => ?_)
      have hP : va_P (dC, dI) vwCl [(p0, .inr (1, [.int (zI (pk s2)), .int (zI lo), .int (zI (li + 1)), .int (zI ((19 + 1))), .ref p1, .ref p2])), (p1, .inl (cI, 9, .inl (zA al2_72))), (p2, .inl (cI, 20, .inl (zA ((zu (zc ah ah 1 0 19) 19 (oc (pk st) c2))))))] H := hP
      have hD : va_D A [(p0, .inr (1, [.int (zI (pk s2)), .int (zI lo), .int (zI (li + 1)), .int (zI ((19 + 1))), .ref p1, .ref p2])), (p1, .inl (cI, 9, .inl (zA al2_72))), (p2, .inl (cI, 20, .inl (zA ((zu (zc ah ah 1 0 19) 19 (oc (pk st) c2))))))] := hD
      rw [← hQQ]
      exact zw_vret hx hb hr hlocks (al2_72, (zu (zc ah ah 1 0 19) 19 (oc (pk st) c2)), (19 + 1)) rfl ⟨(by assumption), (by first | (rw [if_pos (by omega), if_pos (by omega)]) | (rw [if_neg (by omega), if_neg (by omega)])), (by first | (rw [if_pos (by omega)]) | (rw [if_neg (by omega)]))⟩ hP hS dX1_take_93
set_option maxHeartbeats 4000000 in
set_option maxRecDepth 100000 in
theorem c_X1_takeBack (l : Launch) (dC : Nat → ClassId) (dI : Nat → Nat → Nat) (cI cB cZ : ClassId) (p0 : Nat) (p1 : Nat) (p2 : Nat) (st : Int → Int) (lo : Int) (li : Int) (kn : Int) (al : Int → Int) (ah : Int → Int) (s2 : Int → Int) (c2 : Int) (g7 : s7 s2) (hc : c2 = -9 ∨ (0 ≤ c2 ∧ c2 ≤ 8)) (hkn : 1 ≤ kn ∧ kn ≤ 20) (hah : ah (kn - 1) = oc (pk s2) c2) : MetW (S := (Int → Int)) l yX1_takeBack wsX1_takeBack ({ frames := 1, cells := 0, slots := 0, locals := 22 }) (dC, dI) vwCl (zT cI cB cZ) zN [(p0, .inr (1, [.int (zI (pk st)), .int (zI lo), .int (zI li), .int (zI kn), .ref p1, .ref p2])), (p1, .inl (cI, 9, .inl (zA al))), (p2, .inl (cI, 20, .inl (zA ah)))] [.ref p0] (fun u => none) (fun u => [(p0, .inr (1, [.int (zI (pk s2)), .int (zI lo), .int (zI (li - 1)), .int (zI (kn - 1)), .ref p1, .ref p2])), (p1, .inl (cI, 9, .inl (zA u))), (p2, .inl (cI, 20, .inl (zA ah)))]) (fun u => (u = aUp al c2 (-1))) := by
  refine MetW.intro (cc := cX1_takeBack) (maxL := 2) (ret := none) (by decide) rfl (Nat.le_of_ble_eq_true rfl) ?_
  intro p e s m args below meth c A hx hb hr hlocks hml hts hown hP hK hD hS hA hE ls hl
  have hown : s.vm.findClass RX1 = some m.cls := hown
  have hl : lv_has ls 2 [(0, .ref p0)] := hl
  generalize hRM : ({ frames := 1, cells := 0, slots := 0, locals := 22 } : Room) = RM
  generalize hQQ : MQ below (QW (S := (Int → Int)) (dC, dI) vwCl A (fun u => none) (fun u => [(p0, .inr (1, [.int (zI (pk s2)), .int (zI lo), .int (zI (li - 1)), .int (zI (kn - 1)), .ref p1, .ref p2])), (p1, .inl (cI, 9, .inl (zA u))), (p2, .inl (cI, 20, .inl (zA ah)))]) (fun u => (u = aUp al c2 (-1)))) args s 0 0 A = QQ
  have in_X1 : ∀ w ∈ wsX10, w ∈ wsX1_takeBack := by decide +kernel
  have w_0 := hts (.fieldLink RX1 28 "WallMarbles$Present" "known" "I") (by decide +kernel)
  have w_1 := hts (.fieldLink RX1 19 "WallMarbles$Present" "ahead" "[I") (by decide +kernel)
  have w_2 := hts (.fieldLink RX1 22 "WallMarbles$Present" "standing" "I") (by decide +kernel)
  have w_3 := hts (.fieldLink RX1 25 "WallMarbles$Present" "letIn" "I") (by decide +kernel)
  refine lv_aload_n hx hb dX1_takeBack_0 rfl (lv_at hl 0 rfl) ?_
  refine va_get (D := (dC, dI)) (ci := 1) (v := .int (zI kn)) (C := RX1) (T := TX1) (N := 6) hx hb hts in_X1 hown hK hP 0 rfl rfl 3 (by decide) w_0 (fun _ h9 => h9) rfl dX1_takeBack_1 ?_
  refine zv_iconst hx hb dX1_takeBack_4 ?_
  refine zv_icmp_lt (tgt := 17) hx hb (by omega) (by omega) dX1_takeBack_5 (by decide) (fun c_5 => ?_) (fun c_5 => ?_)
  · exfalso; omega
  · refine lv_aload_n hx hb dX1_takeBack_8 rfl (lv_at hl 0 rfl) ?_
    refine va_get (D := (dC, dI)) (ci := 1) (v := .int (zI kn)) (C := RX1) (T := TX1) (N := 6) hx hb hts in_X1 hown hK hP 0 rfl rfl 3 (by decide) w_0 (fun _ h9 => h9) rfl dX1_takeBack_9 ?_
    refine zv_bipush hx hb dX1_takeBack_12 (by decide +kernel) ?_
    refine zv_icmp_le (tgt := 18) hx hb (by omega) (by omega) dX1_takeBack_14 (by decide) (fun c_14 => ?_) (fun c_14 => ?_)
    · refine lv_aload_n hx hb dX1_takeBack_18 rfl (lv_at hl 0 rfl) ?_
      refine lv_dup hx hb dX1_takeBack_19 rfl ?_
      refine va_get (D := (dC, dI)) (ci := 1) (v := .int (zI kn)) (C := RX1) (T := TX1) (N := 6) hx hb hts in_X1 hown hK hP 0 rfl rfl 3 (by decide) w_0 (fun _ h9 => h9) rfl dX1_takeBack_20 ?_
      refine zv_iconst hx hb dX1_takeBack_23 ?_
      refine zv_isub hx hb dX1_takeBack_24 ?_
      refine va_put (D := (dC, dI)) (ci := 1) (v := .int (zI (kn - 1))) (ty := .int) (C := RX1) (T := TX1) (N := 6) hx hb hts in_X1 tyX1 tyX1_ok nmX1 hown hK hP hD hS 0 rfl rfl 3 (by decide) w_0 (fun _ h9 => h9) rfl (by decide +kernel) rfl rfl (Nat.le_of_ble_eq_true rfl) dX1_takeBack_25 (fun H locs hP hD hS => ?_)
      have hP : va_P (dC, dI) vwCl [(p0, .inr (1, [.int (zI (pk st)), .int (zI lo), .int (zI li), .int (zI (kn - 1)), .ref p1, .ref p2])), (p1, .inl (cI, 9, .inl (zA al))), (p2, .inl (cI, 20, .inl (zA ah)))] H := hP
      have hD : va_D A [(p0, .inr (1, [.int (zI (pk st)), .int (zI lo), .int (zI li), .int (zI (kn - 1)), .ref p1, .ref p2])), (p1, .inl (cI, 9, .inl (zA al))), (p2, .inl (cI, 20, .inl (zA ah)))] := hD
      refine lv_aload_n hx hb dX1_takeBack_28 rfl (lv_at hl 0 rfl) ?_
      refine va_get (D := (dC, dI)) (ci := 1) (v := .ref p2) (C := RX1) (T := TX1) (N := 6) hx hb hts in_X1 hown hK hP 0 rfl rfl 5 (by decide) w_1 (fun _ h9 => h9) rfl dX1_takeBack_29 ?_
      refine lv_aload_n hx hb dX1_takeBack_32 rfl (lv_at hl 0 rfl) ?_
      refine va_get (D := (dC, dI)) (ci := 1) (v := .int (zI (kn - 1))) (C := RX1) (T := TX1) (N := 6) hx hb hts in_X1 hown hK hP 0 rfl rfl 3 (by decide) w_0 (fun _ h9 => h9) rfl dX1_takeBack_33 ?_
      refine zv_iald hx hb hK hP 2 0 rfl rfl (by omega) dX1_takeBack_36 ?_
      rw [show (ah (kn - 1)) = oc (pk s2) c2 from by exact hah]
      refine lv_istore_n (lv' := [(1, .int (zI (oc (pk s2) c2))), (0, .ref p0)]) hx hb dX1_takeBack_37 rfl hl (by decide) rfl (fun ls hl => ?_)
      refine lv_aload_n hx hb dX1_takeBack_38 rfl (lv_at hl 1 rfl) ?_
      refine lv_iload_n hx hb dX1_takeBack_39 rfl (lv_at hl 0 rfl) ?_
      refine zv_callRS (As := [.int (zI (oc (pk s2) c2))]) (rest := [.ref p0]) ⟨hx, hb, hml, hown, hts⟩ (c_X2_comesOf l dC dI cI cB cZ s2 c2 (by omega) (by omega)) (va_cwS 1 hts gX1_takeBack_X2_comesOf rfl rfl rfl (by decide +kernel) ⟨by rw [← hRM]; first | decide | (dsimp only; omega), by rw [← hRM]; first | decide | (dsimp only; omega)⟩) hP hK [] rfl [0, 1, 2] rfl zN_bl (zN_go hE) rfl hl.1 rfl (Nat.le_of_ble_eq_true rfl) dX1_takeBack_40 ⟨Nat.zero_le _, Nat.zero_le _⟩ ?_
      refine zv_iconst hx hb dX1_takeBack_43 ?_
      refine zv_callWV (As := [.int (zI c2), .int (zI ((-1)))]) (rest := []) (ws2 := fun u => [(p0, .inr (1, [.int (zI ((pk st))), .int (zI lo), .int (zI li), .int (zI ((kn - 1))), .ref p1, .ref p2])), (p1, .inl (cI, 9, .inl (zA u))), (p2, .inl (cI, 20, .inl (zA ah)))]) ⟨hx, hb, hml, hown, hts⟩ (c_X1_changeAt l dC dI cI cB cZ p0 p1 p2 (pk st) lo li (kn - 1) al ah c2 (-1) (by omega)) (cwV 2 hts gX1_takeBack_X1_changeAt rfl rfl rfl (by decide +kernel) ⟨by rw [← hRM]; first | decide | (dsimp only; omega), by rw [← hRM]; first | decide | (dsimp only; omega)⟩) hP hD hS hA hK [0, 1, 2] rfl (by decide) [0, 1, 2] rfl zN_bl (zN_go hE) (fun _ => rfl) (fun _ => rfl) (q0 := 0) rfl rfl rfl rfl hl.1 rfl (Nat.le_of_ble_eq_true rfl) dX1_takeBack_44 ⟨Nat.zero_le _, Nat.zero_le _⟩ (fun u H locs hpo hP hD hS => ?_)
      obtain ⟨al2_44, rfl⟩ : ∃ z, z = u := ⟨_, rfl⟩
      have hp0_44 : al2_44 = aUp al c2 (-1) := hpo
      have hP : va_P (dC, dI) vwCl [(p0, .inr (1, [.int (zI ((pk st))), .int (zI lo), .int (zI li), .int (zI ((kn - 1))), .ref p1, .ref p2])), (p1, .inl (cI, 9, .inl (zA al2_44))), (p2, .inl (cI, 20, .inl (zA ah)))] H := hP
      have hD : va_D A [(p0, .inr (1, [.int (zI ((pk st))), .int (zI lo), .int (zI li), .int (zI ((kn - 1))), .ref p1, .ref p2])), (p1, .inl (cI, 9, .inl (zA al2_44))), (p2, .inl (cI, 20, .inl (zA ah)))] := hD
      refine W.eq (g2 := F0 m 47 ls []) rfl ?_
      refine lv_aload_n hx hb dX1_takeBack_47 rfl (lv_at hl 1 rfl) ?_
      refine lv_iload_n hx hb dX1_takeBack_48 rfl (lv_at hl 0 rfl) ?_
      refine zv_callRS (As := [.int (zI (oc (pk s2) c2))]) (rest := [.ref p0]) ⟨hx, hb, hml, hown, hts⟩ (c_X2_standingOf l dC dI cI cB cZ s2 c2 (by omega) (by omega)) (va_cwS 1 hts gX1_takeBack_X2_standingOf rfl rfl rfl (by decide +kernel) ⟨by rw [← hRM]; first | decide | (dsimp only; omega), by rw [← hRM]; first | decide | (dsimp only; omega)⟩) hP hK [] rfl [0, 1, 2] rfl zN_bl (zN_go hE) rfl hl.1 rfl (Nat.le_of_ble_eq_true rfl) dX1_takeBack_49 ⟨Nat.zero_le _, Nat.zero_le _⟩ ?_
      refine va_put (D := (dC, dI)) (ci := 1) (v := .int (zI (pk s2))) (ty := .int) (C := RX1) (T := TX1) (N := 6) hx hb hts in_X1 tyX1 tyX1_ok nmX1 hown hK hP hD hS 0 rfl rfl 0 (by decide) w_2 (fun _ h9 => h9) rfl (by decide +kernel) rfl rfl (Nat.le_of_ble_eq_true rfl) dX1_takeBack_52 (fun H locs hP hD hS => ?_)
      have hP : va_P (dC, dI) vwCl [(p0, .inr (1, [.int (zI (pk s2)), .int (zI lo), .int (zI li), .int (zI ((kn - 1))), .ref p1, .ref p2])), (p1, .inl (cI, 9, .inl (zA al2_44))), (p2, .inl (cI, 20, .inl (zA ah)))] H := hP
      have hD : va_D A [(p0, .inr (1, [.int (zI (pk s2)), .int (zI lo), .int (zI li), .int (zI ((kn - 1))), .ref p1, .ref p2])), (p1, .inl (cI, 9, .inl (zA al2_44))), (p2, .inl (cI, 20, .inl (zA ah)))] := hD
      refine lv_aload_n hx hb dX1_takeBack_55 rfl (lv_at hl 1 rfl) ?_
      refine lv_dup hx hb dX1_takeBack_56 rfl ?_
      refine va_get (D := (dC, dI)) (ci := 1) (v := .int (zI li)) (C := RX1) (T := TX1) (N := 6) hx hb hts in_X1 hown hK hP 0 rfl rfl 2 (by decide) w_3 (fun _ h9 => h9) rfl dX1_takeBack_57 ?_
      refine zv_iconst hx hb dX1_takeBack_60 ?_
      refine zv_isub hx hb dX1_takeBack_61 ?_
      refine va_put (D := (dC, dI)) (ci := 1) (v := .int (zI (li - 1))) (ty := .int) (C := RX1) (T := TX1) (N := 6) hx hb hts in_X1 tyX1 tyX1_ok nmX1 hown hK hP hD hS 0 rfl rfl 2 (by decide) w_3 (fun _ h9 => h9) rfl (by decide +kernel) rfl rfl (Nat.le_of_ble_eq_true rfl) dX1_takeBack_62 (fun H locs hP hD hS => ?_)
      have hP : va_P (dC, dI) vwCl [(p0, .inr (1, [.int (zI (pk s2)), .int (zI lo), .int (zI (li - 1)), .int (zI ((kn - 1))), .ref p1, .ref p2])), (p1, .inl (cI, 9, .inl (zA al2_44))), (p2, .inl (cI, 20, .inl (zA ah)))] H := hP
      have hD : va_D A [(p0, .inr (1, [.int (zI (pk s2)), .int (zI lo), .int (zI (li - 1)), .int (zI ((kn - 1))), .ref p1, .ref p2])), (p1, .inl (cI, 9, .inl (zA al2_44))), (p2, .inl (cI, 20, .inl (zA ah)))] := hD
      rw [← hQQ]
      exact zw_vret hx hb hr hlocks (al2_44) rfl (by assumption) hP hS dX1_takeBack_65
    · exfalso; omega
set_option maxHeartbeats 4000000 in
set_option maxRecDepth 100000 in
theorem c_X1_begin (l : Launch) (dC : Nat → ClassId) (dI : Nat → Nat → Nat) (cI cB cZ : ClassId) (p0 : Nat) (p1 : Nat) (p2 : Nat) (sg : Int) (lo : Int) (li : Int) (kn : Int) (al : Int → Int) (ah : Int → Int)  : MetW (S := Unit) l yX1_begin wsX1_begin ({ frames := 1, cells := 0, slots := 0, locals := 23 }) (dC, dI) vwCl (zT cI cB cZ) zN [(p0, .inr (1, [.int (zI sg), .int (zI lo), .int (zI li), .int (zI kn), .ref p1, .ref p2])), (p1, .inl (cI, 9, .inl (zA al))), (p2, .inl (cI, 20, .inl (zA ah)))] [.ref p0] (fun u => none) (fun u => [(p0, .inr (1, [.int (zI 0), .int (zI (-9)), .int (zI 0), .int (zI 0), .ref p1, .ref p2])), (p1, .inl (cI, 9, .inl (zA (zf al ((9 : Nat) : Int) 0)))), (p2, .inl (cI, 20, .inl (zA ah)))]) (fun u => True) := by
  refine MetW.intro (cc := cX1_begin) (maxL := 1) (ret := none) (by decide) rfl (Nat.le_of_ble_eq_true rfl) ?_
  intro p e s m args below meth c A hx hb hr hlocks hml hts hown hP hK hD hS hA hE ls hl
  have hown : s.vm.findClass RX1 = some m.cls := hown
  have hl : lv_has ls 1 [(0, .ref p0)] := hl
  generalize hRM : ({ frames := 1, cells := 0, slots := 0, locals := 23 } : Room) = RM
  generalize hQQ : MQ below (QW (S := Unit) (dC, dI) vwCl A (fun u => none) (fun u => [(p0, .inr (1, [.int (zI 0), .int (zI (-9)), .int (zI 0), .int (zI 0), .ref p1, .ref p2])), (p1, .inl (cI, 9, .inl (zA (zf al ((9 : Nat) : Int) 0)))), (p2, .inl (cI, 20, .inl (zA ah)))]) (fun u => True)) args s 0 0 A = QQ
  have in_X1 : ∀ w ∈ wsX10, w ∈ wsX1_begin := by decide +kernel
  have w_0 := hts (.fieldLink RX1 22 "WallMarbles$Present" "standing" "I") (by decide +kernel)
  have w_1 := hts (.fieldLink RX1 9 "WallMarbles$Present" "lodged" "I") (by decide +kernel)
  have w_2 := hts (.fieldLink RX1 25 "WallMarbles$Present" "letIn" "I") (by decide +kernel)
  have w_3 := hts (.fieldLink RX1 28 "WallMarbles$Present" "known" "I") (by decide +kernel)
  have w_4 := hts (.fieldLink RX1 15 "WallMarbles$Present" "atLandings" "[I") (by decide +kernel)
  refine lv_aload_n hx hb dX1_begin_0 rfl (lv_at hl 0 rfl) ?_
  refine zv_iconst hx hb dX1_begin_1 ?_
  refine va_put (D := (dC, dI)) (ci := 1) (v := .int (zI 0)) (ty := .int) (C := RX1) (T := TX1) (N := 6) hx hb hts in_X1 tyX1 tyX1_ok nmX1 hown hK hP hD hS 0 rfl rfl 0 (by decide) w_0 (fun _ h9 => h9) rfl (by decide +kernel) rfl rfl (Nat.le_of_ble_eq_true rfl) dX1_begin_2 (fun H locs hP hD hS => ?_)
  have hP : va_P (dC, dI) vwCl [(p0, .inr (1, [.int (zI 0), .int (zI lo), .int (zI li), .int (zI kn), .ref p1, .ref p2])), (p1, .inl (cI, 9, .inl (zA al))), (p2, .inl (cI, 20, .inl (zA ah)))] H := hP
  have hD : va_D A [(p0, .inr (1, [.int (zI 0), .int (zI lo), .int (zI li), .int (zI kn), .ref p1, .ref p2])), (p1, .inl (cI, 9, .inl (zA al))), (p2, .inl (cI, 20, .inl (zA ah)))] := hD
  refine lv_aload_n hx hb dX1_begin_5 rfl (lv_at hl 0 rfl) ?_
  refine zv_bipush hx hb dX1_begin_6 (by decide +kernel) ?_
  refine va_put (D := (dC, dI)) (ci := 1) (v := .int (zI ((-9)))) (ty := .int) (C := RX1) (T := TX1) (N := 6) hx hb hts in_X1 tyX1 tyX1_ok nmX1 hown hK hP hD hS 0 rfl rfl 1 (by decide) w_1 (fun _ h9 => h9) rfl (by decide +kernel) rfl rfl (Nat.le_of_ble_eq_true rfl) dX1_begin_8 (fun H locs hP hD hS => ?_)
  have hP : va_P (dC, dI) vwCl [(p0, .inr (1, [.int (zI 0), .int (zI ((-9))), .int (zI li), .int (zI kn), .ref p1, .ref p2])), (p1, .inl (cI, 9, .inl (zA al))), (p2, .inl (cI, 20, .inl (zA ah)))] H := hP
  have hD : va_D A [(p0, .inr (1, [.int (zI 0), .int (zI ((-9))), .int (zI li), .int (zI kn), .ref p1, .ref p2])), (p1, .inl (cI, 9, .inl (zA al))), (p2, .inl (cI, 20, .inl (zA ah)))] := hD
  refine lv_aload_n hx hb dX1_begin_11 rfl (lv_at hl 0 rfl) ?_
  refine zv_iconst hx hb dX1_begin_12 ?_
  refine va_put (D := (dC, dI)) (ci := 1) (v := .int (zI 0)) (ty := .int) (C := RX1) (T := TX1) (N := 6) hx hb hts in_X1 tyX1 tyX1_ok nmX1 hown hK hP hD hS 0 rfl rfl 2 (by decide) w_2 (fun _ h9 => h9) rfl (by decide +kernel) rfl rfl (Nat.le_of_ble_eq_true rfl) dX1_begin_13 (fun H locs hP hD hS => ?_)
  have hP : va_P (dC, dI) vwCl [(p0, .inr (1, [.int (zI 0), .int (zI ((-9))), .int (zI 0), .int (zI kn), .ref p1, .ref p2])), (p1, .inl (cI, 9, .inl (zA al))), (p2, .inl (cI, 20, .inl (zA ah)))] H := hP
  have hD : va_D A [(p0, .inr (1, [.int (zI 0), .int (zI ((-9))), .int (zI 0), .int (zI kn), .ref p1, .ref p2])), (p1, .inl (cI, 9, .inl (zA al))), (p2, .inl (cI, 20, .inl (zA ah)))] := hD
  refine lv_aload_n hx hb dX1_begin_16 rfl (lv_at hl 0 rfl) ?_
  refine zv_iconst hx hb dX1_begin_17 ?_
  refine va_put (D := (dC, dI)) (ci := 1) (v := .int (zI 0)) (ty := .int) (C := RX1) (T := TX1) (N := 6) hx hb hts in_X1 tyX1 tyX1_ok nmX1 hown hK hP hD hS 0 rfl rfl 3 (by decide) w_3 (fun _ h9 => h9) rfl (by decide +kernel) rfl rfl (Nat.le_of_ble_eq_true rfl) dX1_begin_18 (fun H locs hP hD hS => ?_)
  have hP : va_P (dC, dI) vwCl [(p0, .inr (1, [.int (zI 0), .int (zI ((-9))), .int (zI 0), .int (zI 0), .ref p1, .ref p2])), (p1, .inl (cI, 9, .inl (zA al))), (p2, .inl (cI, 20, .inl (zA ah)))] H := hP
  have hD : va_D A [(p0, .inr (1, [.int (zI 0), .int (zI ((-9))), .int (zI 0), .int (zI 0), .ref p1, .ref p2])), (p1, .inl (cI, 9, .inl (zA al))), (p2, .inl (cI, 20, .inl (zA ah)))] := hD
  refine lv_aload_n hx hb dX1_begin_21 rfl (lv_at hl 0 rfl) ?_
  refine va_get (D := (dC, dI)) (ci := 1) (v := .ref p1) (C := RX1) (T := TX1) (N := 6) hx hb hts in_X1 hown hK hP 0 rfl rfl 4 (by decide) w_4 (fun _ h9 => h9) rfl dX1_begin_22 ?_
  refine zv_iconst hx hb dX1_begin_25 ?_
  refine zv_callWS (As := [.ref p1, .int (zI 0)]) (rest := []) (ws2 := fun u => [(p0, .inr (1, [.int (zI 0), .int (zI ((-9))), .int (zI 0), .int (zI 0), .ref p1, .ref p2])), (p1, .inl (cI, 9, .inl (zA (zf al (9 : Int) 0)))), (p2, .inl (cI, 20, .inl (zA ah)))]) ⟨hx, hb, hml, hown, hts⟩ (c_J7_fill_53178 l dC dI cI cB cZ p1 9 al 0 (by omega)) (va_cwS 2 hts gX1_begin_J7_fill_53178 rfl rfl rfl (by decide +kernel) ⟨by rw [← hRM]; first | decide | (dsimp only; omega), by rw [← hRM]; first | decide | (dsimp only; omega)⟩) hP hD hS hA hK [1] rfl (by decide) [0, 1, 2] rfl zN_bl (zN_go hE) (fun _ => rfl) (fun _ => rfl) rfl hl.1 rfl (Nat.le_of_ble_eq_true rfl) dX1_begin_26 ⟨Nat.zero_le _, Nat.zero_le _⟩ (fun u H locs hpo hP hD hS => ?_)
  have hP : va_P (dC, dI) vwCl [(p0, .inr (1, [.int (zI 0), .int (zI ((-9))), .int (zI 0), .int (zI 0), .ref p1, .ref p2])), (p1, .inl (cI, 9, .inl (zA (zf al (9 : Int) 0)))), (p2, .inl (cI, 20, .inl (zA ah)))] H := hP
  have hD : va_D A [(p0, .inr (1, [.int (zI 0), .int (zI ((-9))), .int (zI 0), .int (zI 0), .ref p1, .ref p2])), (p1, .inl (cI, 9, .inl (zA (zf al (9 : Int) 0)))), (p2, .inl (cI, 20, .inl (zA ah)))] := hD
  refine W.eq (g2 := F0 m 29 ls []) rfl ?_
  rw [← hQQ]
  exact zw_vret hx hb hr hlocks () rfl trivial hP hS dX1_begin_29
set_option maxHeartbeats 4000000 in
set_option maxRecDepth 100000 in
theorem c_X1_become (l : Launch) (dC : Nat → ClassId) (dI : Nat → Nat → Nat) (cI cB cZ : ClassId) (p0 : Nat) (p1 : Nat) (p2 : Nat) (sg : Int) (lo : Int) (li : Int) (kn : Int) (al : Int → Int) (ah : Int → Int) (q0 : Nat) (q1 : Nat) (q2 : Nat) (sgq : Int) (loq : Int) (liq : Int) (knq : Int) (alq : Int → Int) (ahq : Int → Int)  : MetW (S := Unit) l yX1_become wsX1_become ({ frames := 1, cells := 0, slots := 0, locals := 40 }) (dC, dI) vwCl (zT cI cB cZ) zN [(p0, .inr (1, [.int (zI sg), .int (zI lo), .int (zI li), .int (zI kn), .ref p1, .ref p2])), (p1, .inl (cI, 9, .inl (zA al))), (p2, .inl (cI, 20, .inl (zA ah))), (q0, .inr (1, [.int (zI sgq), .int (zI loq), .int (zI liq), .int (zI knq), .ref q1, .ref q2])), (q1, .inl (cI, 9, .inl (zA alq))), (q2, .inl (cI, 20, .inl (zA ahq)))] [.ref p0, .ref q0] (fun u => none) (fun u => [(p0, .inr (1, [.int (zI sgq), .int (zI loq), .int (zI liq), .int (zI knq), .ref p1, .ref p2])), (p1, .inl (cI, 9, .inl (zA (zc alq al 0 0 9)))), (p2, .inl (cI, 20, .inl (zA (zc ahq ah 0 0 20)))), (q0, .inr (1, [.int (zI sgq), .int (zI loq), .int (zI liq), .int (zI knq), .ref q1, .ref q2])), (q1, .inl (cI, 9, .inl (zA alq))), (q2, .inl (cI, 20, .inl (zA ahq)))]) (fun u => True) := by
  refine MetW.intro (cc := cX1_become) (maxL := 2) (ret := none) (by decide) rfl (Nat.le_of_ble_eq_true rfl) ?_
  intro p e s m args below meth c A hx hb hr hlocks hml hts hown hP hK hD hS hA hE ls hl
  have hown : s.vm.findClass RX1 = some m.cls := hown
  have hl : lv_has ls 2 [(0, .ref p0), (1, .ref q0)] := hl
  generalize hRM : ({ frames := 1, cells := 0, slots := 0, locals := 40 } : Room) = RM
  generalize hQQ : MQ below (QW (S := Unit) (dC, dI) vwCl A (fun u => none) (fun u => [(p0, .inr (1, [.int (zI sgq), .int (zI loq), .int (zI liq), .int (zI knq), .ref p1, .ref p2])), (p1, .inl (cI, 9, .inl (zA (zc alq al 0 0 9)))), (p2, .inl (cI, 20, .inl (zA (zc ahq ah 0 0 20)))), (q0, .inr (1, [.int (zI sgq), .int (zI loq), .int (zI liq), .int (zI knq), .ref q1, .ref q2])), (q1, .inl (cI, 9, .inl (zA alq))), (q2, .inl (cI, 20, .inl (zA ahq)))]) (fun u => True)) args s 0 0 A = QQ
  have in_X1 : ∀ w ∈ wsX10, w ∈ wsX1_become := by decide +kernel
  have w_0 := hts (.fieldLink RX1 22 "WallMarbles$Present" "standing" "I") (by decide +kernel)
  have w_1 := hts (.fieldLink RX1 9 "WallMarbles$Present" "lodged" "I") (by decide +kernel)
  have w_2 := hts (.fieldLink RX1 25 "WallMarbles$Present" "letIn" "I") (by decide +kernel)
  have w_3 := hts (.fieldLink RX1 28 "WallMarbles$Present" "known" "I") (by decide +kernel)
  have w_4 := hts (.fieldLink RX1 15 "WallMarbles$Present" "atLandings" "[I") (by decide +kernel)
  have w_5 := hts (.methodLink RX1 37 arraycopyName) (by decide +kernel)
  have w_6 := hts (.native arraycopyName) (by decide +kernel)
  have w_7 := hts (.static arraycopyName) (by decide +kernel)
  have w_8 := hts (.initialized "java/lang/System") (by decide +kernel)
  have w_9 := hts (.fieldLink RX1 19 "WallMarbles$Present" "ahead" "[I") (by decide +kernel)
  refine lv_aload_n hx hb dX1_become_0 rfl (lv_at hl 1 rfl) ?_
  refine lv_ifnonnull (tgt := 5) hx hb dX1_become_1 (by decide) ?_
  refine lv_aload_n hx hb dX1_become_5 rfl (lv_at hl 0 rfl) ?_
  refine lv_aload_n hx hb dX1_become_6 rfl (lv_at hl 1 rfl) ?_
  refine va_get (D := (dC, dI)) (ci := 1) (v := .int (zI sgq)) (C := RX1) (T := TX1) (N := 6) hx hb hts in_X1 hown hK hP 3 rfl rfl 0 (by decide) w_0 (fun _ h9 => h9) rfl dX1_become_7 ?_
  refine va_put (D := (dC, dI)) (ci := 1) (v := .int (zI sgq)) (ty := .int) (C := RX1) (T := TX1) (N := 6) hx hb hts in_X1 tyX1 tyX1_ok nmX1 hown hK hP hD hS 0 rfl rfl 0 (by decide) w_0 (fun _ h9 => h9) rfl (by decide +kernel) rfl rfl (Nat.le_of_ble_eq_true rfl) dX1_become_10 (fun H locs hP hD hS => ?_)
  have hP : va_P (dC, dI) vwCl [(p0, .inr (1, [.int (zI sgq), .int (zI lo), .int (zI li), .int (zI kn), .ref p1, .ref p2])), (p1, .inl (cI, 9, .inl (zA al))), (p2, .inl (cI, 20, .inl (zA ah))), (q0, .inr (1, [.int (zI sgq), .int (zI loq), .int (zI liq), .int (zI knq), .ref q1, .ref q2])), (q1, .inl (cI, 9, .inl (zA alq))), (q2, .inl (cI, 20, .inl (zA ahq)))] H := hP
  have hD : va_D A [(p0, .inr (1, [.int (zI sgq), .int (zI lo), .int (zI li), .int (zI kn), .ref p1, .ref p2])), (p1, .inl (cI, 9, .inl (zA al))), (p2, .inl (cI, 20, .inl (zA ah))), (q0, .inr (1, [.int (zI sgq), .int (zI loq), .int (zI liq), .int (zI knq), .ref q1, .ref q2])), (q1, .inl (cI, 9, .inl (zA alq))), (q2, .inl (cI, 20, .inl (zA ahq)))] := hD
  refine lv_aload_n hx hb dX1_become_13 rfl (lv_at hl 0 rfl) ?_
  refine lv_aload_n hx hb dX1_become_14 rfl (lv_at hl 1 rfl) ?_
  refine va_get (D := (dC, dI)) (ci := 1) (v := .int (zI loq)) (C := RX1) (T := TX1) (N := 6) hx hb hts in_X1 hown hK hP 3 rfl rfl 1 (by decide) w_1 (fun _ h9 => h9) rfl dX1_become_15 ?_
  refine va_put (D := (dC, dI)) (ci := 1) (v := .int (zI loq)) (ty := .int) (C := RX1) (T := TX1) (N := 6) hx hb hts in_X1 tyX1 tyX1_ok nmX1 hown hK hP hD hS 0 rfl rfl 1 (by decide) w_1 (fun _ h9 => h9) rfl (by decide +kernel) rfl rfl (Nat.le_of_ble_eq_true rfl) dX1_become_18 (fun H locs hP hD hS => ?_)
  have hP : va_P (dC, dI) vwCl [(p0, .inr (1, [.int (zI sgq), .int (zI loq), .int (zI li), .int (zI kn), .ref p1, .ref p2])), (p1, .inl (cI, 9, .inl (zA al))), (p2, .inl (cI, 20, .inl (zA ah))), (q0, .inr (1, [.int (zI sgq), .int (zI loq), .int (zI liq), .int (zI knq), .ref q1, .ref q2])), (q1, .inl (cI, 9, .inl (zA alq))), (q2, .inl (cI, 20, .inl (zA ahq)))] H := hP
  have hD : va_D A [(p0, .inr (1, [.int (zI sgq), .int (zI loq), .int (zI li), .int (zI kn), .ref p1, .ref p2])), (p1, .inl (cI, 9, .inl (zA al))), (p2, .inl (cI, 20, .inl (zA ah))), (q0, .inr (1, [.int (zI sgq), .int (zI loq), .int (zI liq), .int (zI knq), .ref q1, .ref q2])), (q1, .inl (cI, 9, .inl (zA alq))), (q2, .inl (cI, 20, .inl (zA ahq)))] := hD
  refine lv_aload_n hx hb dX1_become_21 rfl (lv_at hl 0 rfl) ?_
  refine lv_aload_n hx hb dX1_become_22 rfl (lv_at hl 1 rfl) ?_
  refine va_get (D := (dC, dI)) (ci := 1) (v := .int (zI liq)) (C := RX1) (T := TX1) (N := 6) hx hb hts in_X1 hown hK hP 3 rfl rfl 2 (by decide) w_2 (fun _ h9 => h9) rfl dX1_become_23 ?_
  refine va_put (D := (dC, dI)) (ci := 1) (v := .int (zI liq)) (ty := .int) (C := RX1) (T := TX1) (N := 6) hx hb hts in_X1 tyX1 tyX1_ok nmX1 hown hK hP hD hS 0 rfl rfl 2 (by decide) w_2 (fun _ h9 => h9) rfl (by decide +kernel) rfl rfl (Nat.le_of_ble_eq_true rfl) dX1_become_26 (fun H locs hP hD hS => ?_)
  have hP : va_P (dC, dI) vwCl [(p0, .inr (1, [.int (zI sgq), .int (zI loq), .int (zI liq), .int (zI kn), .ref p1, .ref p2])), (p1, .inl (cI, 9, .inl (zA al))), (p2, .inl (cI, 20, .inl (zA ah))), (q0, .inr (1, [.int (zI sgq), .int (zI loq), .int (zI liq), .int (zI knq), .ref q1, .ref q2])), (q1, .inl (cI, 9, .inl (zA alq))), (q2, .inl (cI, 20, .inl (zA ahq)))] H := hP
  have hD : va_D A [(p0, .inr (1, [.int (zI sgq), .int (zI loq), .int (zI liq), .int (zI kn), .ref p1, .ref p2])), (p1, .inl (cI, 9, .inl (zA al))), (p2, .inl (cI, 20, .inl (zA ah))), (q0, .inr (1, [.int (zI sgq), .int (zI loq), .int (zI liq), .int (zI knq), .ref q1, .ref q2])), (q1, .inl (cI, 9, .inl (zA alq))), (q2, .inl (cI, 20, .inl (zA ahq)))] := hD
  refine lv_aload_n hx hb dX1_become_29 rfl (lv_at hl 0 rfl) ?_
  refine lv_aload_n hx hb dX1_become_30 rfl (lv_at hl 1 rfl) ?_
  refine va_get (D := (dC, dI)) (ci := 1) (v := .int (zI knq)) (C := RX1) (T := TX1) (N := 6) hx hb hts in_X1 hown hK hP 3 rfl rfl 3 (by decide) w_3 (fun _ h9 => h9) rfl dX1_become_31 ?_
  refine va_put (D := (dC, dI)) (ci := 1) (v := .int (zI knq)) (ty := .int) (C := RX1) (T := TX1) (N := 6) hx hb hts in_X1 tyX1 tyX1_ok nmX1 hown hK hP hD hS 0 rfl rfl 3 (by decide) w_3 (fun _ h9 => h9) rfl (by decide +kernel) rfl rfl (Nat.le_of_ble_eq_true rfl) dX1_become_34 (fun H locs hP hD hS => ?_)
  have hP : va_P (dC, dI) vwCl [(p0, .inr (1, [.int (zI sgq), .int (zI loq), .int (zI liq), .int (zI knq), .ref p1, .ref p2])), (p1, .inl (cI, 9, .inl (zA al))), (p2, .inl (cI, 20, .inl (zA ah))), (q0, .inr (1, [.int (zI sgq), .int (zI loq), .int (zI liq), .int (zI knq), .ref q1, .ref q2])), (q1, .inl (cI, 9, .inl (zA alq))), (q2, .inl (cI, 20, .inl (zA ahq)))] H := hP
  have hD : va_D A [(p0, .inr (1, [.int (zI sgq), .int (zI loq), .int (zI liq), .int (zI knq), .ref p1, .ref p2])), (p1, .inl (cI, 9, .inl (zA al))), (p2, .inl (cI, 20, .inl (zA ah))), (q0, .inr (1, [.int (zI sgq), .int (zI loq), .int (zI liq), .int (zI knq), .ref q1, .ref q2])), (q1, .inl (cI, 9, .inl (zA alq))), (q2, .inl (cI, 20, .inl (zA ahq)))] := hD
  refine lv_aload_n hx hb dX1_become_37 rfl (lv_at hl 1 rfl) ?_
  refine va_get (D := (dC, dI)) (ci := 1) (v := .ref q1) (C := RX1) (T := TX1) (N := 6) hx hb hts in_X1 hown hK hP 3 rfl rfl 4 (by decide) w_4 (fun _ h9 => h9) rfl dX1_become_38 ?_
  refine zv_iconst hx hb dX1_become_41 ?_
  refine lv_aload_n hx hb dX1_become_42 rfl (lv_at hl 0 rfl) ?_
  refine va_get (D := (dC, dI)) (ci := 1) (v := .ref p1) (C := RX1) (T := TX1) (N := 6) hx hb hts in_X1 hown hK hP 0 rfl rfl 4 (by decide) w_4 (fun _ h9 => h9) rfl dX1_become_43 ?_
  refine zv_iconst hx hb dX1_become_46 ?_
  refine zv_bipush hx hb dX1_become_47 (by decide +kernel) ?_
  refine zv_copy (ws' := [(p0, .inr (1, [.int (zI sgq), .int (zI loq), .int (zI liq), .int (zI knq), .ref p1, .ref p2])), (p1, .inl (cI, 9, .inl (zA (zc alq al 0 0 9)))), (p2, .inl (cI, 20, .inl (zA ah))), (q0, .inr (1, [.int (zI sgq), .int (zI loq), .int (zI liq), .int (zI knq), .ref q1, .ref q2])), (q1, .inl (cI, 9, .inl (zA alq))), (q2, .inl (cI, 20, .inl (zA ahq)))]) hx hb (hml.trans hl.1.symm) hown w_5 w_6 w_7 w_8 hK hP hD hS 4 1 0 rfl rfl rfl (by omega) rfl (by rw [← hRM]; decide) (by rw [← hRM]; decide) dX1_become_49 (fun H locs hP hD hS => ?_)
  refine lv_aload_n hx hb dX1_become_52 rfl (lv_at hl 1 rfl) ?_
  refine va_get (D := (dC, dI)) (ci := 1) (v := .ref q2) (C := RX1) (T := TX1) (N := 6) hx hb hts in_X1 hown hK hP 3 rfl rfl 5 (by decide) w_9 (fun _ h9 => h9) rfl dX1_become_53 ?_
  refine zv_iconst hx hb dX1_become_56 ?_
  refine lv_aload_n hx hb dX1_become_57 rfl (lv_at hl 0 rfl) ?_
  refine va_get (D := (dC, dI)) (ci := 1) (v := .ref p2) (C := RX1) (T := TX1) (N := 6) hx hb hts in_X1 hown hK hP 0 rfl rfl 5 (by decide) w_9 (fun _ h9 => h9) rfl dX1_become_58 ?_
  refine zv_iconst hx hb dX1_become_61 ?_
  refine zv_bipush hx hb dX1_become_62 (by decide +kernel) ?_
  refine zv_copy (ws' := [(p0, .inr (1, [.int (zI sgq), .int (zI loq), .int (zI liq), .int (zI knq), .ref p1, .ref p2])), (p1, .inl (cI, 9, .inl (zA (zc alq al 0 0 9)))), (p2, .inl (cI, 20, .inl (zA (zc ahq ah 0 0 20)))), (q0, .inr (1, [.int (zI sgq), .int (zI loq), .int (zI liq), .int (zI knq), .ref q1, .ref q2])), (q1, .inl (cI, 9, .inl (zA alq))), (q2, .inl (cI, 20, .inl (zA ahq)))]) hx hb (hml.trans hl.1.symm) hown w_5 w_6 w_7 w_8 hK hP hD hS 5 2 0 rfl rfl rfl (by omega) rfl (by rw [← hRM]; decide) (by rw [← hRM]; decide) dX1_become_64 (fun H locs hP hD hS => ?_)
  rw [← hQQ]
  exact zw_vret hx hb hr hlocks () rfl trivial hP hS dX1_become_67
set_option maxHeartbeats 4000000 in
set_option maxRecDepth 100000 in
theorem c_X4_append (l : Launch) (dC : Nat → ClassId) (dI : Nat → Nat → Nat) (cI cB cZ : ClassId) (t0 : Nat) (t1 : Nat) (t2 : Nat) (tn : Int) (ts : Int → Int) (tc : Int → Int) (a : Int) (b : Int) (hn : 0 ≤ tn ∧ tn < 9) : MetW (S := Unit) l yX4_append wsX4_append ({ frames := 0, cells := 0, slots := 0, locals := 0 }) (dC, dI) vwCl (zT cI cB cZ) zN [(t0, .inr (3, [.int (zI tn), .ref t1, .ref t2])), (t1, .inl (cI, 9, .inl (zA ts))), (t2, .inl (cI, 9, .inl (zA tc)))] [.ref t0, .int (zI a), .int (zI b)] (fun u => none) (fun u => [(t0, .inr (3, [.int (zI (tn + 1)), .ref t1, .ref t2])), (t1, .inl (cI, 9, .inl (zA (zu ts tn a)))), (t2, .inl (cI, 9, .inl (zA (zu tc tn b))))]) (fun u => True) := by
  refine MetW.intro (cc := cX4_append) (maxL := 3) (ret := none) (by decide) rfl (Nat.le_of_ble_eq_true rfl) ?_
  intro p e s m args below meth c A hx hb hr hlocks hml hts hown hP hK hD hS hA hE ls hl
  have hown : s.vm.findClass RX4 = some m.cls := hown
  have hl : lv_has ls 3 [(0, .ref t0), (1, .int (zI a)), (2, .int (zI b))] := hl
  generalize hRM : ({ frames := 0, cells := 0, slots := 0, locals := 0 } : Room) = RM
  generalize hQQ : MQ below (QW (S := Unit) (dC, dI) vwCl A (fun u => none) (fun u => [(t0, .inr (3, [.int (zI (tn + 1)), .ref t1, .ref t2])), (t1, .inl (cI, 9, .inl (zA (zu ts tn a)))), (t2, .inl (cI, 9, .inl (zA (zu tc tn b))))]) (fun u => True)) args s 0 0 A = QQ
  have in_X4 : ∀ w ∈ wsX40, w ∈ wsX4_append := by decide +kernel
  have w_0 := hts (.fieldLink RX4 18 "WallMarbles$Trials" "number" "I") (by decide +kernel)
  have w_1 := hts (.fieldLink RX4 9 "WallMarbles$Trials" "sizes" "[I") (by decide +kernel)
  have w_2 := hts (.fieldLink RX4 15 "WallMarbles$Trials" "comings" "[I") (by decide +kernel)
  refine lv_aload_n hx hb dX4_append_0 rfl (lv_at hl 0 rfl) ?_
  refine va_get (D := (dC, dI)) (ci := 3) (v := .int (zI tn)) (C := RX4) (T := TX4) (N := 3) hx hb hts in_X4 hown hK hP 0 rfl rfl 0 (by decide) w_0 (fun _ h9 => h9) rfl dX4_append_1 ?_
  refine zv_if_lt (tgt := 16) hx hb (by omega) dX4_append_4 (by decide) (fun c_4 => ?_) (fun c_4 => ?_)
  · exfalso; omega
  · refine lv_aload_n hx hb dX4_append_7 rfl (lv_at hl 0 rfl) ?_
    refine va_get (D := (dC, dI)) (ci := 3) (v := .int (zI tn)) (C := RX4) (T := TX4) (N := 3) hx hb hts in_X4 hown hK hP 0 rfl rfl 0 (by decide) w_0 (fun _ h9 => h9) rfl dX4_append_8 ?_
    refine zv_bipush hx hb dX4_append_11 (by decide +kernel) ?_
    refine zv_icmp_lt (tgt := 17) hx hb (by omega) (by omega) dX4_append_13 (by decide) (fun c_13 => ?_) (fun c_13 => ?_)
    · refine lv_aload_n hx hb dX4_append_17 rfl (lv_at hl 0 rfl) ?_
      refine va_get (D := (dC, dI)) (ci := 3) (v := .ref t1) (C := RX4) (T := TX4) (N := 3) hx hb hts in_X4 hown hK hP 0 rfl rfl 1 (by decide) w_1 (fun _ h9 => h9) rfl dX4_append_18 ?_
      refine lv_aload_n hx hb dX4_append_21 rfl (lv_at hl 0 rfl) ?_
      refine va_get (D := (dC, dI)) (ci := 3) (v := .int (zI tn)) (C := RX4) (T := TX4) (N := 3) hx hb hts in_X4 hown hK hP 0 rfl rfl 0 (by decide) w_0 (fun _ h9 => h9) rfl dX4_append_22 ?_
      refine lv_iload_n hx hb dX4_append_25 rfl (lv_at hl 1 rfl) ?_
      refine zv_iast (ws' := [(t0, .inr (3, [.int (zI tn), .ref t1, .ref t2])), (t1, .inl (cI, 9, .inl (zA (zu ts tn a)))), (t2, .inl (cI, 9, .inl (zA tc)))]) hx hb hK hP hD hS 1 0 rfl rfl (by omega) rfl dX4_append_26 (fun H locs hP hD hS => ?_)
      refine lv_aload_n hx hb dX4_append_27 rfl (lv_at hl 0 rfl) ?_
      refine va_get (D := (dC, dI)) (ci := 3) (v := .ref t2) (C := RX4) (T := TX4) (N := 3) hx hb hts in_X4 hown hK hP 0 rfl rfl 2 (by decide) w_2 (fun _ h9 => h9) rfl dX4_append_28 ?_
      refine lv_aload_n hx hb dX4_append_31 rfl (lv_at hl 0 rfl) ?_
      refine va_get (D := (dC, dI)) (ci := 3) (v := .int (zI tn)) (C := RX4) (T := TX4) (N := 3) hx hb hts in_X4 hown hK hP 0 rfl rfl 0 (by decide) w_0 (fun _ h9 => h9) rfl dX4_append_32 ?_
      refine lv_iload_n hx hb dX4_append_35 rfl (lv_at hl 2 rfl) ?_
      refine zv_iast (ws' := [(t0, .inr (3, [.int (zI tn), .ref t1, .ref t2])), (t1, .inl (cI, 9, .inl (zA (zu ts tn a)))), (t2, .inl (cI, 9, .inl (zA (zu tc tn b))))]) hx hb hK hP hD hS 2 0 rfl rfl (by omega) rfl dX4_append_36 (fun H locs hP hD hS => ?_)
      refine lv_aload_n hx hb dX4_append_37 rfl (lv_at hl 0 rfl) ?_
      refine lv_dup hx hb dX4_append_38 rfl ?_
      refine va_get (D := (dC, dI)) (ci := 3) (v := .int (zI tn)) (C := RX4) (T := TX4) (N := 3) hx hb hts in_X4 hown hK hP 0 rfl rfl 0 (by decide) w_0 (fun _ h9 => h9) rfl dX4_append_39 ?_
      refine zv_iconst hx hb dX4_append_42 ?_
      refine zv_iadd hx hb dX4_append_43 ?_
      refine va_put (D := (dC, dI)) (ci := 3) (v := .int (zI (tn + 1))) (ty := .int) (C := RX4) (T := TX4) (N := 3) hx hb hts in_X4 tyX4 tyX4_ok nmX4 hown hK hP hD hS 0 rfl rfl 0 (by decide) w_0 (fun _ h9 => h9) rfl (by decide +kernel) rfl rfl (Nat.le_of_ble_eq_true rfl) dX4_append_44 (fun H locs hP hD hS => ?_)
      have hP : va_P (dC, dI) vwCl [(t0, .inr (3, [.int (zI (tn + 1)), .ref t1, .ref t2])), (t1, .inl (cI, 9, .inl (zA (zu ts tn a)))), (t2, .inl (cI, 9, .inl (zA (zu tc tn b))))] H := hP
      have hD : va_D A [(t0, .inr (3, [.int (zI (tn + 1)), .ref t1, .ref t2])), (t1, .inl (cI, 9, .inl (zA (zu ts tn a)))), (t2, .inl (cI, 9, .inl (zA (zu tc tn b))))] := hD
      rw [← hQQ]
      exact zw_vret hx hb hr hlocks () rfl trivial hP hS dX4_append_47
    · exfalso; omega
set_option maxHeartbeats 4000000 in
set_option maxRecDepth 100000 in
theorem c_X4_standingBehind (l : Launch) (dC : Nat → ClassId) (dI : Nat → Nat → Nat) (cI cB cZ : ClassId) (t0 : Nat) (t1 : Nat) (t2 : Nat) (tn : Int) (ts : Int → Int) (tc : Int → Int) (h0 : Nat) (h1 : Nat) (h2 : Nat) (h3 : Nat) (h4 : Nat) (n : Int) (so : Int → Int) (le : Int → Int) (ri : Int → Int) (ti : Int → Int) (lod : Int) (hh : hOk n so le ri ti) (hn1 : 1 ≤ n) (htn : 0 ≤ tn ∧ tn ≤ 9) (htz : ∀ j : Int, 0 ≤ j → j < tn → ts j = 0 ∨ ts j = 1) (htc : ∀ j : Int, 0 ≤ j → j < tn → -9 ≤ tc j ∧ tc j ≤ 8) (hlo : -9 ≤ lod ∧ lod ≤ 8) : MetR l yX4_standingBehind wsX4_standingBehind ({ frames := 2, cells := 0, slots := 0, locals := 52 }) (dC, dI) vwCl (zT cI cB cZ) zN [(t0, .inr (3, [.int (zI tn), .ref t1, .ref t2])), (t1, .inl (cI, 9, .inl (zA ts))), (t2, .inl (cI, 9, .inl (zA tc))), (h0, .inr (0, [.int (zI n), .ref h1, .ref h2, .ref h3, .ref h4])), (h1, .inl (cI, 9, .inl (zA so))), (h2, .inl (cI, 9, .inl (zA le))), (h3, .inl (cI, 9, .inl (zA ri))), (h4, .inl (cI, 9, .inl (zA ti)))] [.ref t0, .ref h0, .int (zI lod)] (zI (if trK so le ri ti lod n ts tc tn.toNat = true then pk (trT so le ri ti lod n ts tn.toNat) else -1)) := by
  refine MetR.intro (cc := cX4_standingBehind) (maxL := 6) (ret := (some .int)) (by decide) rfl (Nat.le_of_ble_eq_true rfl) ?_
  intro p e s m args below meth c hx hb hr hlocks hml hts hown hP hK hE ls hl
  have hown : s.vm.findClass RX4 = some m.cls := hown
  have hl : lv_has ls 6 [(0, .ref t0), (1, .ref h0), (2, .int (zI lod))] := hl
  generalize hRM : ({ frames := 2, cells := 0, slots := 0, locals := 52 } : Room) = RM
  generalize hQQ : MQ below (vp_Si (fun r => r = zI (if trK so le ri ti lod n ts tc tn.toNat = true then pk (trT so le ri ti lod n ts tn.toNat) else -1))) args s 0 0 (fun _ => False) = QQ
  have in_X4 : ∀ w ∈ wsX40, w ∈ wsX4_standingBehind := by decide +kernel
  have w_0 := hts (.fieldLink RX4 18 "WallMarbles$Trials" "number" "I") (by decide +kernel)
  have w_1 := hts (.fieldLink RX4 9 "WallMarbles$Trials" "sizes" "[I") (by decide +kernel)
  have w_2 := hts (.fieldLink RX4 15 "WallMarbles$Trials" "comings" "[I") (by decide +kernel)
  have hn := hh.1
  have cut11 : ∀ (nM : Nat) (su : Int → Int) (i : Int),  ((tn - i).toNat) < nM → (0 ≤ i ∧ i ≤ tn) → (su = trT so le ri ti lod n ts i.toNat) → (trK so le ri ti lod n ts tc i.toNat = true) → (sOk n so ti su) → ∀ ls : Array Slot, lv_has ls 6 [(0, .ref t0), (1, .ref h0), (2, .int (zI lod)), (3, .int (zI (pk su))), (4, .int (zI i))] → W p l e RM s m args below meth c s.heap [] 0 0 QQ (F0 m 11 ls []) := by
    intro nM
    induction nM with
    | zero => intro su i hmu; exact absurd hmu (Nat.not_lt_zero _)
    | succ nM ih11 =>
      intro su i hmu hi hsu hk hs ls hl
      refine lv_iload hx hb dX4_standingBehind_11 (lv_at hl 4 rfl) ?_
      refine lv_aload_n hx hb dX4_standingBehind_13 rfl (lv_at hl 0 rfl) ?_
      refine va_get (D := (dC, dI)) (ci := 3) (v := .int (zI tn)) (C := RX4) (T := TX4) (N := 3) hx hb hts in_X4 hown hK hP 0 rfl rfl 0 (by decide) w_0 (fun _ h9 => h9) rfl dX4_standingBehind_14 ?_
      refine zv_icmp_ge (tgt := 71) hx hb (by omega) (by omega) dX4_standingBehind_17 (by decide) (fun c_17 => ?_) (fun c_17 => ?_)
      · refine lv_iload_n hx hb dX4_standingBehind_71 rfl (lv_at hl 3 rfl) ?_
        rw [← hQQ]
        exact zr_iret hx hb hr hlocks (congrArg zI (show pk su = if trK so le ri ti lod n ts tc tn.toNat = true then pk (trT so le ri ti lod n ts tn.toNat) else -1 from by rw [show i = tn by omega] at hsu hk; rw [if_pos hk, hsu])) dX4_standingBehind_72
      · refine lv_iload hx hb dX4_standingBehind_20 (lv_at hl 4 rfl) ?_
        refine zv_bipush hx hb dX4_standingBehind_22 (by decide +kernel) ?_
        refine zv_icmp_ge (tgt := 71) hx hb (by omega) (by omega) dX4_standingBehind_24 (by decide) (fun c_24 => ?_) (fun c_24 => ?_)
        · exfalso; omega
        · have z1 := htz i (by omega) (by omega)
          have z2 := htc i (by omega) (by omega)
          obtain ⟨g1, g2⟩ := goS_ok hh lod (ts i) 9 su (n - 1) (by omega) (by omega) hs
          have g3 := sOk_s7 hh g1
          refine lv_aload_n hx hb dX4_standingBehind_27 rfl (lv_at hl 1 rfl) ?_
          refine lv_iload_n hx hb dX4_standingBehind_28 rfl (lv_at hl 3 rfl) ?_
          refine lv_aload_n hx hb dX4_standingBehind_29 rfl (lv_at hl 0 rfl) ?_
          refine va_get (D := (dC, dI)) (ci := 3) (v := .ref t1) (C := RX4) (T := TX4) (N := 3) hx hb hts in_X4 hown hK hP 0 rfl rfl 1 (by decide) w_1 (fun _ h9 => h9) rfl dX4_standingBehind_30 ?_
          refine lv_iload hx hb dX4_standingBehind_33 (lv_at hl 4 rfl) ?_
          refine zv_iald hx hb hK hP 1 0 rfl rfl (by omega) dX4_standingBehind_35 ?_
          refine lv_iload_n hx hb dX4_standingBehind_36 rfl (lv_at hl 2 rfl) ?_
          refine zv_callRV (As := [.int (zI (pk su)), .int (zI (ts i)), .int (zI lod)]) (rest := []) ⟨hx, hb, hml, hown, hts⟩ (c_X0_fall l dC dI cI cB cZ h0 h1 h2 h3 h4 n so le ri ti su (ts i) lod (by exact hh) (by omega) (by exact hs) (by omega) (by omega)) (cwV 3 hts gX4_standingBehind_X0_fall rfl rfl rfl (by decide +kernel) ⟨by rw [← hRM]; first | decide | (dsimp only; omega), by rw [← hRM]; first | decide | (dsimp only; omega)⟩) hP hK [3, 4, 5, 6, 7] rfl [0, 1, 2] rfl zN_bl (zN_go hE) (q0 := 0) rfl rfl rfl rfl hl.1 rfl (Nat.le_of_ble_eq_true rfl) dX4_standingBehind_37 ⟨Nat.zero_le _, Nat.zero_le _⟩ ?_
          refine lv_istore (lv' := [(5, .int (zI (oc (pk (goS so le ri ti lod (ts i) 9 su (n - 1)).1) (goS so le ri ti lod (ts i) 9 su (n - 1)).2))), (0, .ref t0), (1, .ref h0), (2, .int (zI lod)), (3, .int (zI (pk su))), (4, .int (zI i))]) hx hb dX4_standingBehind_40 hl (by decide) rfl (fun ls hl => ?_)
          refine lv_iload hx hb dX4_standingBehind_42 (lv_at hl 0 rfl) ?_
          refine zv_callRS (As := [.int (zI (oc (pk (goS so le ri ti lod (ts i) 9 su (n - 1)).1) (goS so le ri ti lod (ts i) 9 su (n - 1)).2))]) (rest := []) ⟨hx, hb, hml, hown, hts⟩ (c_X2_comesOf l dC dI cI cB cZ ((goS so le ri ti lod (ts i) 9 su (n - 1)).1) ((goS so le ri ti lod (ts i) 9 su (n - 1)).2) (by exact g3) (by omega)) (va_cwS 1 hts gX4_standingBehind_X2_comesOf rfl rfl rfl (by decide +kernel) ⟨by rw [← hRM]; first | decide | (dsimp only; omega), by rw [← hRM]; first | decide | (dsimp only; omega)⟩) hP hK [] rfl [0, 1, 2] rfl zN_bl (zN_go hE) rfl hl.1 rfl (Nat.le_of_ble_eq_true rfl) dX4_standingBehind_44 ⟨Nat.zero_le _, Nat.zero_le _⟩ ?_
          refine lv_aload_n hx hb dX4_standingBehind_47 rfl (lv_at hl 1 rfl) ?_
          refine va_get (D := (dC, dI)) (ci := 3) (v := .ref t2) (C := RX4) (T := TX4) (N := 3) hx hb hts in_X4 hown hK hP 0 rfl rfl 2 (by decide) w_2 (fun _ h9 => h9) rfl dX4_standingBehind_48 ?_
          refine lv_iload hx hb dX4_standingBehind_51 (lv_at hl 5 rfl) ?_
          refine zv_iald hx hb hK hP 2 0 rfl rfl (by omega) dX4_standingBehind_53 ?_
          refine zv_icmp_eq (tgt := 59) hx hb (by omega) (by omega) dX4_standingBehind_54 (by decide) (fun c_54 => ?_) (fun c_54 => ?_)
          · refine lv_iload hx hb dX4_standingBehind_59 (lv_at hl 0 rfl) ?_
            refine zv_callRS (As := [.int (zI (oc (pk (goS so le ri ti lod (ts i) 9 su (n - 1)).1) (goS so le ri ti lod (ts i) 9 su (n - 1)).2))]) (rest := []) ⟨hx, hb, hml, hown, hts⟩ (c_X2_standingOf l dC dI cI cB cZ ((goS so le ri ti lod (ts i) 9 su (n - 1)).1) ((goS so le ri ti lod (ts i) 9 su (n - 1)).2) (by exact g3) (by omega)) (va_cwS 1 hts gX4_standingBehind_X2_standingOf rfl rfl rfl (by decide +kernel) ⟨by rw [← hRM]; first | decide | (dsimp only; omega), by rw [← hRM]; first | decide | (dsimp only; omega)⟩) hP hK [] rfl [0, 1, 2] rfl zN_bl (zN_go hE) rfl hl.1 rfl (Nat.le_of_ble_eq_true rfl) dX4_standingBehind_61 ⟨Nat.zero_le _, Nat.zero_le _⟩ ?_
            refine lv_istore_n (lv' := [(3, .int (zI (pk ((goS so le ri ti lod (ts i) 9 su (n - 1)).1)))), (5, .int (zI (oc (pk (goS so le ri ti lod (ts i) 9 su (n - 1)).1) (goS so le ri ti lod (ts i) 9 su (n - 1)).2))), (0, .ref t0), (1, .ref h0), (2, .int (zI lod)), (4, .int (zI i))]) hx hb dX4_standingBehind_64 rfl hl (by decide) rfl (fun ls hl => ?_)
            refine zv_iinc (k := 5) (a := i) (n := 1) (lv' := [(4, .int (zI (i + 1))), (3, .int (zI (pk ((goS so le ri ti lod (ts i) 9 su (n - 1)).1)))), (5, .int (zI (oc (pk (goS so le ri ti lod (ts i) 9 su (n - 1)).1) (goS so le ri ti lod (ts i) 9 su (n - 1)).2))), (0, .ref t0), (1, .ref h0), (2, .int (zI lod))]) hx hb dX4_standingBehind_65 hl rfl (by decide) rfl (fun ls hl => ?_)
            refine lv_goto (tgt := 11) hx hb dX4_standingBehind_68 (by decide) ?_
            exact ih11 ((goS so le ri ti lod (ts i) 9 su (n - 1)).1) (i + 1) (by omega) (by omega) (by rw [hsu]; exact (trT_s (by omega)).symm) (by exact trK_s (by omega) hk (by rw [← hsu]; exact c_54)) (by exact g1) _ (lv_sub hl [3, 4, 5, 1, 0] rfl)
          · refine zv_iconst hx hb dX4_standingBehind_57 ?_
            rw [← hQQ]
            exact zr_iret hx hb hr hlocks (congrArg zI (show (-1) = if trK so le ri ti lod n ts tc tn.toNat = true then pk (trT so le ri ti lod n ts tn.toNat) else -1 from by rw [if_neg (trK_no (i := i) (by omega) (by omega) (by rw [← hsu]; exact c_54))])) dX4_standingBehind_58
  refine lv_aload_n hx hb dX4_standingBehind_0 rfl (lv_at hl 1 rfl) ?_
  refine lv_ifnonnull (tgt := 6) hx hb dX4_standingBehind_1 (by decide) ?_
  refine zv_iconst hx hb dX4_standingBehind_6 ?_
  rw [show (0 : Int) = pk (fun _ => 0) from rfl]
  refine lv_istore_n (lv' := [(3, .int (zI (pk (fun _ => 0)))), (0, .ref t0), (1, .ref h0), (2, .int (zI lod))]) hx hb dX4_standingBehind_7 rfl hl (by decide) rfl (fun ls hl => ?_)
  refine zv_iconst hx hb dX4_standingBehind_8 ?_
  refine lv_istore (lv' := [(4, .int (zI 0)), (3, .int (zI (pk (fun _ => 0)))), (0, .ref t0), (1, .ref h0), (2, .int (zI lod))]) hx hb dX4_standingBehind_9 hl (by decide) rfl (fun ls hl => ?_)
  exact cut11 _ (fun _ => 0) 0 (Nat.lt_succ_self _) (by omega) (by rfl) (by rfl) (by exact sOk_0 hh) _ (lv_sub hl [2, 3, 4, 1, 0] rfl)
