/-! all standings that can come, found in order -/
def lg (Ls : List (Int → Int)) (j : Int) : Int → Int := Ls.getD j.toNat (fun _ => 0)
def adB (Ls : List (Int → Int)) (x : Int → Int) : List (Int → Int) := if Ls.length < 200 ∧ ¬ (∃ t ∈ Ls, pk t = pk x) then Ls ++ [x] else Ls
def bfS (so le ri ti : Int → Int) (lo n : Int) : Nat → Nat → List (Int → Int) → Int
  | 0, _, Ls => (Ls.length : Int)
  | f + 1, i, Ls => if i < Ls.length then bfS so le ri ti lo n f (i + 1) (adB (adB Ls (goS so le ri ti lo 0 9 (lg Ls (i : Int)) (n - 1)).1) (goS so le ri ti lo 1 9 (lg Ls (i : Int)) (n - 1)).1) else (Ls.length : Int)
def bfZ (so le ri ti : Int → Int) (lo n z : Int) (x : Int → Int) (Ls : List (Int → Int)) : List (Int → Int) :=
  if z = 0 then adB (adB Ls (goS so le ri ti lo 0 9 x (n - 1)).1) (goS so le ri ti lo 1 9 x (n - 1)).1 else if z = 1 then adB Ls (goS so le ri ti lo 1 9 x (n - 1)).1 else Ls
def q_stand (so le ri ti : Int → Int) (lo n : Int) (st : Int → Int) : Int := if n = 0 then -2 else bfS so le ri ti lo n 200 0 [st]
theorem bfS_s {so le ri ti : Int → Int} {lo n : Int} {f : Nat} {i : Int} {Ls : List (Int → Int)} : bfS so le ri ti lo n (f + 1) i.toNat Ls = if i.toNat < Ls.length then bfS so le ri ti lo n f (i.toNat + 1) (bfZ so le ri ti lo n 0 (lg Ls i) Ls) else (Ls.length : Int) := by
  have e : lg Ls ((i.toNat : Nat) : Int) = lg Ls i := by
    unfold lg
    rw [show ((i.toNat : Nat) : Int).toNat = i.toNat by omega]
  show (if i.toNat < Ls.length then bfS so le ri ti lo n f (i.toNat + 1) (adB (adB Ls (goS so le ri ti lo 0 9 (lg Ls ((i.toNat : Nat) : Int)) (n - 1)).1) (goS so le ri ti lo 1 9 (lg Ls ((i.toNat : Nat) : Int)) (n - 1)).1) else (Ls.length : Int)) = _
  rw [e]
  rfl
theorem bfS_e {so le ri ti : Int → Int} {lo n : Int} : ∀ {f i : Nat} {Ls : List (Int → Int)}, Ls.length ≤ i → bfS so le ri ti lo n f i Ls = (Ls.length : Int)
  | 0, _, _, _ => rfl
  | f + 1, i, Ls, h => if_neg (by omega)
theorem lg_mem {Ls : List (Int → Int)} {j : Int} (h0 : 0 ≤ j) (h1 : j < (Ls.length : Int)) : lg Ls j ∈ Ls := by
  have hk : j.toNat < Ls.length := by omega
  unfold lg
  rw [List.getD_eq_getElem?_getD, List.getElem?_eq_getElem hk]
  exact List.getElem_mem hk
theorem lg_app {Ls : List (Int → Int)} {x : Int → Int} {j : Int} (h0 : 0 ≤ j) (h1 : j < (Ls.length : Int)) : lg (Ls ++ [x]) j = lg Ls j := by
  have hk : j.toNat < Ls.length := by omega
  unfold lg
  rw [List.getD_eq_getElem?_getD, List.getD_eq_getElem?_getD, List.getElem?_append_left hk]
theorem lg_last {Ls : List (Int → Int)} {x : Int → Int} {j : Int} (h : j = (Ls.length : Int)) : lg (Ls ++ [x]) j = x := by
  unfold lg
  rw [List.getD_eq_getElem?_getD, show j.toNat = Ls.length by omega, List.getElem?_append_right (Nat.le_refl _), Nat.sub_self]
  rfl
theorem adB_y {Ls : List (Int → Int)} {x : Int → Int} (h : Ls.length < 200) (h2 : ¬ (∃ t ∈ Ls, pk t = pk x)) : adB Ls x = Ls ++ [x] := if_pos ⟨h, h2⟩
theorem adB_n1 {Ls : List (Int → Int)} {x : Int → Int} (h : 200 ≤ Ls.length) : adB Ls x = Ls := if_neg (fun q => by have := q.1; omega)
theorem adB_n2 {Ls : List (Int → Int)} {x : Int → Int} (h : ∃ t ∈ Ls, pk t = pk x) : adB Ls x = Ls := if_neg (fun q => q.2 h)
theorem anyB_j {Ls : List (Int → Int)} {cur x : Int → Int} {fo : Int} (hc : ∀ j : Int, 0 ≤ j → j < fo → cur j = pk (lg Ls j)) (hL : fo = (Ls.length : Int)) (h : ∃ t ∈ Ls, pk t = pk x) : ∃ j : Nat, j < fo.toNat ∧ cur (j : Int) = pk x := by
  obtain ⟨t, ht, e⟩ := h
  obtain ⟨j, hj, rfl⟩ := List.getElem_of_mem ht
  refine ⟨j, by omega, ?_⟩
  rw [hc (j : Int) (by omega) (by omega), ← e]
  unfold lg
  rw [show ((j : Int)).toNat = j by omega, List.getD_eq_getElem?_getD, List.getElem?_eq_getElem hj]
  rfl
theorem anyB_l {Ls : List (Int → Int)} {cur x : Int → Int} {fo : Int} (hc : ∀ j : Int, 0 ≤ j → j < fo → cur j = pk (lg Ls j)) (hL : fo = (Ls.length : Int)) {j : Nat} (h1 : j < fo.toNat) (h2 : cur (j : Int) = pk x) : ∃ t ∈ Ls, pk t = pk x := by
  refine ⟨lg Ls (j : Int), lg_mem (by omega) (by omega), ?_⟩
  rw [← hc (j : Int) (by omega) (by omega)]
  exact h2
theorem cu_app {Ls : List (Int → Int)} {cur x : Int → Int} {fo : Int} (hc : ∀ j : Int, 0 ≤ j → j < fo → cur j = pk (lg Ls j)) (hL : fo = (Ls.length : Int)) : ∀ j : Int, 0 ≤ j → j < fo + 1 → zu cur fo (pk x) j = pk (lg (Ls ++ [x]) j) := by
  intro j h0 h1
  by_cases q : j = fo
  · rw [q, zu_s, lg_last hL]
  · rw [zu_n q, lg_app h0 (by omega)]
    exact hc j h0 (by omega)
theorem bfZ_n {so le ri ti : Int → Int} {lo n z : Int} {f k : Nat} {i : Int} {Ls Lt : List (Int → Int)} (hz : z = 0 ∨ z = 1) (h : adB Ls (goS so le ri ti lo z 9 (lg Ls i) (n - 1)).1 = Lt) (h0 : 0 ≤ i) (h1 : i < (Ls.length : Int)) : bfS so le ri ti lo n f k (bfZ so le ri ti lo n z (lg Ls i) Ls) = bfS so le ri ti lo n f k (bfZ so le ri ti lo n (z + 1) (lg Lt i) Lt) := by
  have e : lg Lt i = lg Ls i := by
    rw [← h]
    unfold adB
    split
    · exact lg_app h0 h1
    · rfl
  rw [e]
  rcases hz with rfl | rfl
  · unfold bfZ
    rw [if_pos rfl, if_neg (by omega), if_pos (by omega), h]
  · unfold bfZ
    rw [if_neg (by omega), if_pos rfl, if_neg (by omega), if_neg (by omega), h]
set_option maxHeartbeats 4000000 in
set_option maxRecDepth 100000 in
theorem c_X5_standings (l : Launch) (dC : Nat → ClassId) (dI : Nat → Nat → Nat) (cI cB cZ : ClassId) (w0 : Nat) (x0 : Nat) (h0 : Nat) (g0 : Nat) (p0 : Nat) (q0 : Nat) (r0 : Nat) (fk : Int) (sk : Int) (t0 : Nat) (b1 : Nat) (b2 : Nat) (tr : Int64) (h1 : Nat) (h2 : Nat) (h3 : Nat) (h4 : Nat) (n : Int) (so : Int → Int) (le : Int → Int) (ri : Int → Int) (ti : Int → Int) (p1 : Nat) (p2 : Nat) (st : Int → Int) (lo : Int) (li : Int) (kn : Int) (al : Int → Int) (ah : Int → Int) (rc : Int → Int) (hh : hOk n so le ri ti) (hs : sOk n so ti st) (hlo : -9 ≤ lo ∧ lo ≤ 8) : MetW (S := (Int → Int)) l yX5_standings wsX5_standings ({ frames := 3, cells := 0, slots := 0, locals := 75 }) (dC, dI) vwCl (zT cI cB cZ) zN [(w0, .inr (4, [.ref x0, .ref h0, .ref g0, .ref p0, .ref q0, .ref r0, .int (zI fk), .int (zI sk), .ref t0, .ref b1, .ref b2, .long tr])), (h0, .inr (0, [.int (zI n), .ref h1, .ref h2, .ref h3, .ref h4])), (h1, .inl (cI, 9, .inl (zA so))), (h2, .inl (cI, 9, .inl (zA le))), (h3, .inl (cI, 9, .inl (zA ri))), (h4, .inl (cI, 9, .inl (zA ti))), (p0, .inr (1, [.int (zI (pk st)), .int (zI lo), .int (zI li), .int (zI kn), .ref p1, .ref p2])), (p1, .inl (cI, 9, .inl (zA al))), (p2, .inl (cI, 20, .inl (zA ah))), (b1, .inl (cI, 200, .inl (zA rc)))] [.ref w0] (fun u => some (.int (zI (q_stand so le ri ti lo n st)))) (fun u => [(w0, .inr (4, [.ref x0, .ref h0, .ref g0, .ref p0, .ref q0, .ref r0, .int (zI fk), .int (zI sk), .ref t0, .ref b1, .ref b2, .long tr])), (h0, .inr (0, [.int (zI n), .ref h1, .ref h2, .ref h3, .ref h4])), (h1, .inl (cI, 9, .inl (zA so))), (h2, .inl (cI, 9, .inl (zA le))), (h3, .inl (cI, 9, .inl (zA ri))), (h4, .inl (cI, 9, .inl (zA ti))), (p0, .inr (1, [.int (zI (pk st)), .int (zI lo), .int (zI li), .int (zI kn), .ref p1, .ref p2])), (p1, .inl (cI, 9, .inl (zA al))), (p2, .inl (cI, 20, .inl (zA ah))), (b1, .inl (cI, 200, .inl (zA u)))]) (fun u => True) := by
  refine MetW.intro (cc := cX5_standings) (maxL := 5) (ret := (some .int)) (by decide) rfl (Nat.le_of_ble_eq_true rfl) ?_
  intro p e s m args below meth c A hx hb hr hlocks hml hts hown hP hK hD hS hA hE ls hl
  have hown : s.vm.findClass RX5 = some m.cls := hown
  have hl : lv_has ls 5 [(0, .ref w0)] := hl
  generalize hRM : ({ frames := 3, cells := 0, slots := 0, locals := 75 } : Room) = RM
  generalize hQQ : MQ below (QW (S := (Int → Int)) (dC, dI) vwCl A (fun u => some (.int (zI (q_stand so le ri ti lo n st)))) (fun u => [(w0, .inr (4, [.ref x0, .ref h0, .ref g0, .ref p0, .ref q0, .ref r0, .int (zI fk), .int (zI sk), .ref t0, .ref b1, .ref b2, .long tr])), (h0, .inr (0, [.int (zI n), .ref h1, .ref h2, .ref h3, .ref h4])), (h1, .inl (cI, 9, .inl (zA so))), (h2, .inl (cI, 9, .inl (zA le))), (h3, .inl (cI, 9, .inl (zA ri))), (h4, .inl (cI, 9, .inl (zA ti))), (p0, .inr (1, [.int (zI (pk st)), .int (zI lo), .int (zI li), .int (zI kn), .ref p1, .ref p2])), (p1, .inl (cI, 9, .inl (zA al))), (p2, .inl (cI, 20, .inl (zA ah))), (b1, .inl (cI, 200, .inl (zA u)))]) (fun u => True)) args s 0 0 A = QQ
  have in_X0 : ∀ w ∈ wsX00, w ∈ wsX5_standings := by decide +kernel
  have in_X1 : ∀ w ∈ wsX10, w ∈ wsX5_standings := by decide +kernel
  have in_X5 : ∀ w ∈ wsX50, w ∈ wsX5_standings := by decide +kernel
  have w_0 := hts (.fieldLink RX5 19 "WallMarbles" "built" "LWallMarbles$House;") (by decide +kernel)
  have w_1 := hts (.fieldLink RX5 46 "WallMarbles" "reached" "[I") (by decide +kernel)
  have w_2 := hts (.fieldLink RX5 29 "WallMarbles" "present" "LWallMarbles$Present;") (by decide +kernel)
  have n_116 := va_Nw.use (A := args) rfl (zN_4 hE)
  have n_78 := va_Nw.use (A := args) rfl (zN_2 hE)
  have n_98 := va_Nw.use (A := args) rfl (zN_3 hE)
  have hn := hh.1
  have cut44 : ∀ (n30 : Nat) (ih30 : ∀ (fo : Int) (i : Int) (Ls : List (Int → Int)) (cur : Int → Int), ((201 - i).toNat) < n30 → (fo = (Ls.length : Int) ∧ 1 ≤ fo ∧ fo ≤ 200) → (∀ t ∈ Ls, sOk n so ti t) → (1 ≤ n) → (∀ j : Int, 0 ≤ j → j < fo → cur j = pk (lg Ls j)) → (0 ≤ i ∧ i ≤ fo) → (q_stand so le ri ti lo n st = bfS so le ri ti lo n (200 - i).toNat i.toNat Ls) → ∀ (H : Heap) (locs : List Loc), va_P (dC, dI) vwCl [(w0, .inr (4, [.ref x0, .ref h0, .ref g0, .ref p0, .ref q0, .ref r0, .int (zI fk), .int (zI sk), .ref t0, .ref b1, .ref b2, .long tr])), (h0, .inr (0, [.int (zI n), .ref h1, .ref h2, .ref h3, .ref h4])), (h1, .inl (cI, 9, .inl (zA so))), (h2, .inl (cI, 9, .inl (zA le))), (h3, .inl (cI, 9, .inl (zA ri))), (h4, .inl (cI, 9, .inl (zA ti))), (p0, .inr (1, [.int (zI (pk st)), .int (zI lo), .int (zI li), .int (zI kn), .ref p1, .ref p2])), (p1, .inl (cI, 9, .inl (zA al))), (p2, .inl (cI, 20, .inl (zA ah))), (b1, .inl (cI, 200, .inl (zA cur)))] H → va_D A [(w0, .inr (4, [.ref x0, .ref h0, .ref g0, .ref p0, .ref q0, .ref r0, .int (zI fk), .int (zI sk), .ref t0, .ref b1, .ref b2, .long tr])), (h0, .inr (0, [.int (zI n), .ref h1, .ref h2, .ref h3, .ref h4])), (h1, .inl (cI, 9, .inl (zA so))), (h2, .inl (cI, 9, .inl (zA le))), (h3, .inl (cI, 9, .inl (zA ri))), (h4, .inl (cI, 9, .inl (zA ti))), (p0, .inr (1, [.int (zI (pk st)), .int (zI lo), .int (zI li), .int (zI kn), .ref p1, .ref p2])), (p1, .inl (cI, 9, .inl (zA al))), (p2, .inl (cI, 20, .inl (zA ah))), (b1, .inl (cI, 200, .inl (zA cur)))] → va_S A s.heap H locs → ∀ ls : Array Slot, lv_has ls 5 [(0, .ref w0), (1, .int (zI fo)), (2, .int (zI i))] → W p l e RM s m args below meth c H locs 0 0 QQ (F0 m 30 ls [])), ∀ n44 : Nat, ∀ (fo : Int) (i : Int) (z : Int) (Ls : List (Int → Int)) (cur : Int → Int), ((2 - z).toNat) < n44 → (fo = (Ls.length : Int) ∧ 1 ≤ fo ∧ fo ≤ 200) → (∀ t ∈ Ls, sOk n so ti t) → (1 ≤ n) → (∀ j : Int, 0 ≤ j → j < fo → cur j = pk (lg Ls j)) → (0 ≤ i ∧ i < fo) → (0 ≤ z ∧ z ≤ 2) → ((201 - i).toNat < n30 + 1) → (q_stand so le ri ti lo n st = bfS so le ri ti lo n (199 - i).toNat (i + 1).toNat (bfZ so le ri ti lo n z (lg Ls i) Ls)) → ∀ (H : Heap) (locs : List Loc), va_P (dC, dI) vwCl [(w0, .inr (4, [.ref x0, .ref h0, .ref g0, .ref p0, .ref q0, .ref r0, .int (zI fk), .int (zI sk), .ref t0, .ref b1, .ref b2, .long tr])), (h0, .inr (0, [.int (zI n), .ref h1, .ref h2, .ref h3, .ref h4])), (h1, .inl (cI, 9, .inl (zA so))), (h2, .inl (cI, 9, .inl (zA le))), (h3, .inl (cI, 9, .inl (zA ri))), (h4, .inl (cI, 9, .inl (zA ti))), (p0, .inr (1, [.int (zI (pk st)), .int (zI lo), .int (zI li), .int (zI kn), .ref p1, .ref p2])), (p1, .inl (cI, 9, .inl (zA al))), (p2, .inl (cI, 20, .inl (zA ah))), (b1, .inl (cI, 200, .inl (zA cur)))] H → va_D A [(w0, .inr (4, [.ref x0, .ref h0, .ref g0, .ref p0, .ref q0, .ref r0, .int (zI fk), .int (zI sk), .ref t0, .ref b1, .ref b2, .long tr])), (h0, .inr (0, [.int (zI n), .ref h1, .ref h2, .ref h3, .ref h4])), (h1, .inl (cI, 9, .inl (zA so))), (h2, .inl (cI, 9, .inl (zA le))), (h3, .inl (cI, 9, .inl (zA ri))), (h4, .inl (cI, 9, .inl (zA ti))), (p0, .inr (1, [.int (zI (pk st)), .int (zI lo), .int (zI li), .int (zI kn), .ref p1, .ref p2])), (p1, .inl (cI, 9, .inl (zA al))), (p2, .inl (cI, 20, .inl (zA ah))), (b1, .inl (cI, 200, .inl (zA cur)))] → va_S A s.heap H locs → ∀ ls : Array Slot, lv_has ls 5 [(0, .ref w0), (1, .int (zI fo)), (2, .int (zI i)), (3, .int (zI z))] → W p l e RM s m args below meth c H locs 0 0 QQ (F0 m 44 ls []) := by
    intro n30 ih30
    intro n44
    induction n44 with
    | zero => intro fo i z Ls cur hmu; exact absurd hmu (Nat.not_lt_zero _)
    | succ n44 ih44 =>
      intro fo i z Ls cur hmu hL hsO hn1 hcu hi hz hm30 hres H locs hP hD hS ls hl
      refine lv_iload_n hx hb dX5_standings_44 rfl (lv_at hl 3 rfl) ?_
      refine zv_iconst hx hb dX5_standings_45 ?_
      refine zv_icmp_gt (tgt := 106) hx hb (by omega) (by omega) dX5_standings_46 (by decide) (fun c_46 => ?_) (fun c_46 => ?_)
      · refine zv_iinc (k := 2) (a := i) (n := 1) (lv' := [(2, .int (zI (i + 1))), (0, .ref w0), (1, .int (zI fo)), (3, .int (zI z))]) hx hb dX5_standings_106 hl rfl (by decide) rfl (fun ls hl => ?_)
        refine lv_goto (tgt := 30) hx hb dX5_standings_109 (by decide) ?_
        exact ih30 fo (i + 1) Ls cur (by omega) (by exact hL) (by exact hsO) (by omega) (by exact hcu) (by omega) (by rw [hres, show (200 - (i + 1)).toNat = (199 - i).toNat by omega, show z = 2 by omega]; rfl) _ _ hP hD hS _ (lv_sub hl [1, 2, 0] rfl)
      · have hm := lg_mem (Ls := Ls) (j := i) (by omega) (by omega)
        have hsi := hsO _ hm
        obtain ⟨g1, g2⟩ := goS_ok hh lo z 9 (lg Ls i) (n - 1) (by omega) (by omega) hsi
        have r7 := pk_rng (sOk_s7 hh g1)
        refine lv_aload_n hx hb dX5_standings_49 rfl (lv_at hl 0 rfl) ?_
        refine va_get (D := (dC, dI)) (ci := 4) (v := .ref h0) (C := RX5) (T := TX5) (N := 12) hx hb hts in_X5 hown hK hP 0 rfl rfl 1 (by decide) w_0 (fun _ h9 => h9) rfl dX5_standings_50 ?_
        refine lv_aload_n hx hb dX5_standings_53 rfl (lv_at hl 0 rfl) ?_
        refine va_get (D := (dC, dI)) (ci := 4) (v := .ref b1) (C := RX5) (T := TX5) (N := 12) hx hb hts in_X5 hown hK hP 0 rfl rfl 9 (by decide) w_1 (fun _ h9 => h9) rfl dX5_standings_54 ?_
        refine lv_iload_n hx hb dX5_standings_57 rfl (lv_at hl 2 rfl) ?_
        refine zv_iald hx hb hK hP 9 0 rfl rfl (by omega) dX5_standings_58 ?_
        rw [show (cur i) = pk (lg Ls i) from by exact hcu i (by omega) (by omega)]
        refine lv_iload_n hx hb dX5_standings_59 rfl (lv_at hl 3 rfl) ?_
        refine lv_aload_n hx hb dX5_standings_60 rfl (lv_at hl 0 rfl) ?_
        refine va_get (D := (dC, dI)) (ci := 4) (v := .ref p0) (C := RX5) (T := TX5) (N := 12) hx hb hts in_X5 hown hK hP 0 rfl rfl 3 (by decide) w_2 (fun _ h9 => h9) rfl dX5_standings_61 ?_
        refine va_getN (D := (dC, dI)) (ci := 1) (v := .int (zI lo)) (C := RX1) (T := TX1) (N := 6) hx hb hts in_X1 hown hK hP 6 rfl rfl 1 (by decide) n_116 (fun _ h9 => h9) rfl dX5_standings_64 ?_
        refine zv_callRV (As := [.int (zI (pk (lg Ls i))), .int (zI z), .int (zI lo)]) (rest := []) ⟨hx, hb, hml, hown, hts⟩ (c_X0_standingAfter l dC dI cI cB cZ h0 h1 h2 h3 h4 n so le ri ti (lg Ls i) z lo (by exact hh) (by omega) (by exact hsi) (by omega) (by omega)) (cwV 3 hts gX5_standings_X0_standingAfter rfl rfl rfl (by decide +kernel) ⟨by rw [← hRM]; first | decide | (dsimp only; omega), by rw [← hRM]; first | decide | (dsimp only; omega)⟩) hP hK [1, 2, 3, 4, 5] rfl [0, 1, 2] rfl zN_bl (zN_go hE) (q0 := 0) rfl rfl rfl rfl hl.1 rfl (Nat.le_of_ble_eq_true rfl) dX5_standings_67 ⟨Nat.zero_le _, Nat.zero_le _⟩ ?_
        refine lv_istore (lv' := [(4, .int (zI (pk (goS so le ri ti lo z 9 (lg Ls i) (n - 1)).1))), (0, .ref w0), (1, .int (zI fo)), (2, .int (zI i)), (3, .int (zI z))]) hx hb dX5_standings_70 hl (by decide) rfl (fun ls hl => ?_)
        refine lv_iload_n hx hb dX5_standings_72 rfl (lv_at hl 2 rfl) ?_
        refine zv_sipush hx hb dX5_standings_73 (by decide +kernel) ?_
        refine zv_icmp_ge (tgt := 100) hx hb (by omega) (by omega) dX5_standings_76 (by decide) (fun c_76 => ?_) (fun c_76 => ?_)
        · have hz1 : z = 0 ∨ z = 1 := by omega
          have hA9 : adB Ls (goS so le ri ti lo z 9 (lg Ls i) (n - 1)).1 = Ls := adB_n1 (by omega)
          refine zv_iinc (k := 4) (a := z) (n := 1) (lv' := [(3, .int (zI (z + 1))), (4, .int (zI (pk (goS so le ri ti lo z 9 (lg Ls i) (n - 1)).1))), (0, .ref w0), (1, .int (zI fo)), (2, .int (zI i))]) hx hb dX5_standings_100 hl rfl (by decide) rfl (fun ls hl => ?_)
          refine lv_goto (tgt := 44) hx hb dX5_standings_103 (by decide) ?_
          exact ih44 fo i (z + 1) Ls cur (by omega) (by first | exact hL | (rw [List.length_append]; simp only [List.length_cons, List.length_nil]; omega)) (by first | exact hsO | (intro t ht; rcases List.mem_append.mp ht with q | q; exact hsO t q; rw [List.mem_singleton.mp q]; exact g1)) (by omega) (by first | exact hcu | exact cu_app hcu hL.1) (by omega) (by omega) (by exact hm30) (by rw [hres]; exact bfZ_n hz1 hA9 (by omega) (by omega)) _ _ hP hD hS _ (lv_sub hl [2, 3, 4, 0] rfl)
        · have rr7 : ∀ j : Int, 0 ≤ j → j < fo → -2147483648 ≤ cur j ∧ cur j ≤ 2147483647 := by intro j h0 h1; rw [hcu j h0 h1]; have := pk_rng (sOk_s7 hh (hsO _ (lg_mem (Ls := Ls) (j := j) h0 (by omega)))); omega
          refine lv_aload_n hx hb dX5_standings_79 rfl (lv_at hl 1 rfl) ?_
          refine lv_iload hx hb dX5_standings_80 (lv_at hl 0 rfl) ?_
          refine lv_iload_n hx hb dX5_standings_82 rfl (lv_at hl 2 rfl) ?_
          refine zv_callRV (As := [.int (zI (pk (goS so le ri ti lo z 9 (lg Ls i) (n - 1)).1)), .int (zI fo)]) (rest := []) ⟨hx, hb, hml, hown, hts⟩ (c_X5_isReached l dC dI cI cB cZ w0 x0 h0 g0 p0 q0 r0 fk sk t0 b1 b2 tr cur (pk (goS so le ri ti lo z 9 (lg Ls i) (n - 1)).1) fo (by omega) (by omega) (by exact rr7)) (cwV 2 hts gX5_standings_X5_isReached rfl rfl rfl (by decide +kernel) ⟨by rw [← hRM]; first | decide | (dsimp only; omega), by rw [← hRM]; first | decide | (dsimp only; omega)⟩) hP hK [0, 9] rfl [0, 1, 2] rfl zN_bl (zN_go hE) (q0 := 0) rfl rfl rfl rfl hl.1 rfl (Nat.le_of_ble_eq_true rfl) dX5_standings_83 ⟨Nat.zero_le _, Nat.zero_le _⟩ ?_
          refine zv_ifne_b (tgt := 100) hx hb dX5_standings_86 (by decide) (fun c_86 => ?_) (fun c_86 => ?_)
          · have hz1 : z = 0 ∨ z = 1 := by omega
            have hA9 : adB Ls (goS so le ri ti lo z 9 (lg Ls i) (n - 1)).1 = Ls := adB_n2 (by obtain ⟨j, q1, q2⟩ := c_86; exact anyB_l hcu hL.1 q1 q2)
            refine zv_iinc (k := 4) (a := z) (n := 1) (lv' := [(3, .int (zI (z + 1))), (4, .int (zI (pk (goS so le ri ti lo z 9 (lg Ls i) (n - 1)).1))), (0, .ref w0), (1, .int (zI fo)), (2, .int (zI i))]) hx hb dX5_standings_100 hl rfl (by decide) rfl (fun ls hl => ?_)
            refine lv_goto (tgt := 44) hx hb dX5_standings_103 (by decide) ?_
            exact ih44 fo i (z + 1) Ls cur (by omega) (by first | exact hL | (rw [List.length_append]; simp only [List.length_cons, List.length_nil]; omega)) (by first | exact hsO | (intro t ht; rcases List.mem_append.mp ht with q | q; exact hsO t q; rw [List.mem_singleton.mp q]; exact g1)) (by omega) (by first | exact hcu | exact cu_app hcu hL.1) (by omega) (by omega) (by exact hm30) (by rw [hres]; exact bfZ_n hz1 hA9 (by omega) (by omega)) _ _ hP hD hS _ (lv_sub hl [2, 3, 4, 0] rfl)
          · refine lv_aload_n hx hb dX5_standings_89 rfl (lv_at hl 1 rfl) ?_
            refine va_get (D := (dC, dI)) (ci := 4) (v := .ref b1) (C := RX5) (T := TX5) (N := 12) hx hb hts in_X5 hown hK hP 0 rfl rfl 9 (by decide) w_1 (fun _ h9 => h9) rfl dX5_standings_90 ?_
            refine lv_iload_n hx hb dX5_standings_93 rfl (lv_at hl 2 rfl) ?_
            refine lv_iload hx hb dX5_standings_94 (lv_at hl 0 rfl) ?_
            refine zv_iast (ws' := [(w0, .inr (4, [.ref x0, .ref h0, .ref g0, .ref p0, .ref q0, .ref r0, .int (zI fk), .int (zI sk), .ref t0, .ref b1, .ref b2, .long tr])), (h0, .inr (0, [.int (zI n), .ref h1, .ref h2, .ref h3, .ref h4])), (h1, .inl (cI, 9, .inl (zA so))), (h2, .inl (cI, 9, .inl (zA le))), (h3, .inl (cI, 9, .inl (zA ri))), (h4, .inl (cI, 9, .inl (zA ti))), (p0, .inr (1, [.int (zI (pk st)), .int (zI lo), .int (zI li), .int (zI kn), .ref p1, .ref p2])), (p1, .inl (cI, 9, .inl (zA al))), (p2, .inl (cI, 20, .inl (zA ah))), (b1, .inl (cI, 200, .inl (zA (zu cur fo (pk (goS so le ri ti lo z 9 (lg Ls i) (n - 1)).1)))))]) hx hb hK hP hD hS 9 0 rfl rfl (by omega) rfl dX5_standings_96 (fun H locs hP hD hS => ?_)
            refine zv_iinc (k := 2) (a := fo) (n := 1) (lv' := [(1, .int (zI (fo + 1))), (4, .int (zI (pk (goS so le ri ti lo z 9 (lg Ls i) (n - 1)).1))), (0, .ref w0), (2, .int (zI i)), (3, .int (zI z))]) hx hb dX5_standings_97 hl rfl (by decide) rfl (fun ls hl => ?_)
            have hz1 : z = 0 ∨ z = 1 := by omega
            have hA9 : adB Ls (goS so le ri ti lo z 9 (lg Ls i) (n - 1)).1 = Ls ++ [(goS so le ri ti lo z 9 (lg Ls i) (n - 1)).1] := adB_y (by omega) (fun q => c_86 (anyB_j hcu hL.1 q))
            refine zv_iinc (k := 4) (a := z) (n := 1) (lv' := [(3, .int (zI (z + 1))), (1, .int (zI (fo + 1))), (4, .int (zI (pk (goS so le ri ti lo z 9 (lg Ls i) (n - 1)).1))), (0, .ref w0), (2, .int (zI i))]) hx hb dX5_standings_100 hl rfl (by decide) rfl (fun ls hl => ?_)
            refine lv_goto (tgt := 44) hx hb dX5_standings_103 (by decide) ?_
            exact ih44 (fo + 1) i (z + 1) (Ls ++ [(goS so le ri ti lo z 9 (lg Ls i) (n - 1)).1]) (zu cur fo (pk (goS so le ri ti lo z 9 (lg Ls i) (n - 1)).1)) (by omega) (by first | exact hL | (rw [List.length_append]; simp only [List.length_cons, List.length_nil]; omega)) (by first | exact hsO | (intro t ht; rcases List.mem_append.mp ht with q | q; exact hsO t q; rw [List.mem_singleton.mp q]; exact g1)) (by omega) (by first | exact hcu | exact cu_app hcu hL.1) (by omega) (by omega) (by exact hm30) (by rw [hres]; exact bfZ_n hz1 hA9 (by omega) (by omega)) _ _ hP hD hS _ (lv_sub hl [3, 1, 4, 0] rfl)
  have cut30 : ∀ n30 : Nat, ∀ (fo : Int) (i : Int) (Ls : List (Int → Int)) (cur : Int → Int), ((201 - i).toNat) < n30 → (fo = (Ls.length : Int) ∧ 1 ≤ fo ∧ fo ≤ 200) → (∀ t ∈ Ls, sOk n so ti t) → (1 ≤ n) → (∀ j : Int, 0 ≤ j → j < fo → cur j = pk (lg Ls j)) → (0 ≤ i ∧ i ≤ fo) → (q_stand so le ri ti lo n st = bfS so le ri ti lo n (200 - i).toNat i.toNat Ls) → ∀ (H : Heap) (locs : List Loc), va_P (dC, dI) vwCl [(w0, .inr (4, [.ref x0, .ref h0, .ref g0, .ref p0, .ref q0, .ref r0, .int (zI fk), .int (zI sk), .ref t0, .ref b1, .ref b2, .long tr])), (h0, .inr (0, [.int (zI n), .ref h1, .ref h2, .ref h3, .ref h4])), (h1, .inl (cI, 9, .inl (zA so))), (h2, .inl (cI, 9, .inl (zA le))), (h3, .inl (cI, 9, .inl (zA ri))), (h4, .inl (cI, 9, .inl (zA ti))), (p0, .inr (1, [.int (zI (pk st)), .int (zI lo), .int (zI li), .int (zI kn), .ref p1, .ref p2])), (p1, .inl (cI, 9, .inl (zA al))), (p2, .inl (cI, 20, .inl (zA ah))), (b1, .inl (cI, 200, .inl (zA cur)))] H → va_D A [(w0, .inr (4, [.ref x0, .ref h0, .ref g0, .ref p0, .ref q0, .ref r0, .int (zI fk), .int (zI sk), .ref t0, .ref b1, .ref b2, .long tr])), (h0, .inr (0, [.int (zI n), .ref h1, .ref h2, .ref h3, .ref h4])), (h1, .inl (cI, 9, .inl (zA so))), (h2, .inl (cI, 9, .inl (zA le))), (h3, .inl (cI, 9, .inl (zA ri))), (h4, .inl (cI, 9, .inl (zA ti))), (p0, .inr (1, [.int (zI (pk st)), .int (zI lo), .int (zI li), .int (zI kn), .ref p1, .ref p2])), (p1, .inl (cI, 9, .inl (zA al))), (p2, .inl (cI, 20, .inl (zA ah))), (b1, .inl (cI, 200, .inl (zA cur)))] → va_S A s.heap H locs → ∀ ls : Array Slot, lv_has ls 5 [(0, .ref w0), (1, .int (zI fo)), (2, .int (zI i))] → W p l e RM s m args below meth c H locs 0 0 QQ (F0 m 30 ls []) := by
    intro n30
    induction n30 with
    | zero => intro fo i Ls cur hmu; exact absurd hmu (Nat.not_lt_zero _)
    | succ n30 ih30 =>
      intro fo i Ls cur hmu hL hsO hn1 hcu hi hres H locs hP hD hS ls hl
      refine lv_iload_n hx hb dX5_standings_30 rfl (lv_at hl 2 rfl) ?_
      refine lv_iload_n hx hb dX5_standings_31 rfl (lv_at hl 1 rfl) ?_
      refine zv_icmp_ge (tgt := 112) hx hb (by omega) (by omega) dX5_standings_32 (by decide) (fun c_32 => ?_) (fun c_32 => ?_)
      · refine lv_iload_n hx hb dX5_standings_112 rfl (lv_at hl 1 rfl) ?_
        rw [← hQQ]
        exact zw_iret hx hb hr hlocks (cur) (congrArg (fun z => some (Value.int (zI z))) (show q_stand so le ri ti lo n st = fo from by rw [hres, bfS_e (by omega), hL.1])) trivial hP hS dX5_standings_113
      · refine lv_iload_n hx hb dX5_standings_35 rfl (lv_at hl 2 rfl) ?_
        refine zv_sipush hx hb dX5_standings_36 (by decide +kernel) ?_
        refine zv_icmp_ge (tgt := 112) hx hb (by omega) (by omega) dX5_standings_39 (by decide) (fun c_39 => ?_) (fun c_39 => ?_)
        · exfalso; omega
        · refine zv_iconst hx hb dX5_standings_42 ?_
          refine lv_istore_n (lv' := [(3, .int (zI 0)), (0, .ref w0), (1, .int (zI fo)), (2, .int (zI i))]) hx hb dX5_standings_43 rfl hl (by decide) rfl (fun ls hl => ?_)
          exact cut44 n30 ih30 _ fo i 0 Ls cur (Nat.lt_succ_self _) (by exact hL) (by exact hsO) (by omega) (by exact hcu) (by omega) (by omega) (by exact hmu) (by rw [hres, show (200 - i).toNat = (199 - i).toNat + 1 by omega, bfS_s, if_pos (by omega), show i.toNat + 1 = (i + 1).toNat by omega]) _ _ hP hD hS _ (lv_sub hl [1, 2, 3, 0] rfl)
  refine lv_aload_n hx hb dX5_standings_0 rfl (lv_at hl 0 rfl) ?_
  refine va_get (D := (dC, dI)) (ci := 4) (v := .ref h0) (C := RX5) (T := TX5) (N := 12) hx hb hts in_X5 hown hK hP 0 rfl rfl 1 (by decide) w_0 (fun _ h9 => h9) rfl dX5_standings_1 ?_
  refine va_getN (D := (dC, dI)) (ci := 0) (v := .int (zI n)) (C := RX0) (T := TX0) (N := 5) hx hb hts in_X0 hown hK hP 1 rfl rfl 0 (by decide) n_78 (fun _ h9 => h9) rfl dX5_standings_4 ?_
  refine zv_if_ne (tgt := 13) hx hb (by omega) dX5_standings_7 (by decide) (fun c_7 => ?_) (fun c_7 => ?_)
  · refine lv_aload_n hx hb dX5_standings_13 rfl (lv_at hl 0 rfl) ?_
    refine va_get (D := (dC, dI)) (ci := 4) (v := .ref b1) (C := RX5) (T := TX5) (N := 12) hx hb hts in_X5 hown hK hP 0 rfl rfl 9 (by decide) w_1 (fun _ h9 => h9) rfl dX5_standings_14 ?_
    refine zv_iconst hx hb dX5_standings_17 ?_
    refine lv_aload_n hx hb dX5_standings_18 rfl (lv_at hl 0 rfl) ?_
    refine va_get (D := (dC, dI)) (ci := 4) (v := .ref p0) (C := RX5) (T := TX5) (N := 12) hx hb hts in_X5 hown hK hP 0 rfl rfl 3 (by decide) w_2 (fun _ h9 => h9) rfl dX5_standings_19 ?_
    refine va_getN (D := (dC, dI)) (ci := 1) (v := .int (zI (pk st))) (C := RX1) (T := TX1) (N := 6) hx hb hts in_X1 hown hK hP 6 rfl rfl 0 (by decide) n_98 (fun _ h9 => h9) rfl dX5_standings_22 ?_
    refine zv_iast (ws' := [(w0, .inr (4, [.ref x0, .ref h0, .ref g0, .ref p0, .ref q0, .ref r0, .int (zI fk), .int (zI sk), .ref t0, .ref b1, .ref b2, .long tr])), (h0, .inr (0, [.int (zI n), .ref h1, .ref h2, .ref h3, .ref h4])), (h1, .inl (cI, 9, .inl (zA so))), (h2, .inl (cI, 9, .inl (zA le))), (h3, .inl (cI, 9, .inl (zA ri))), (h4, .inl (cI, 9, .inl (zA ti))), (p0, .inr (1, [.int (zI (pk st)), .int (zI lo), .int (zI li), .int (zI kn), .ref p1, .ref p2])), (p1, .inl (cI, 9, .inl (zA al))), (p2, .inl (cI, 20, .inl (zA ah))), (b1, .inl (cI, 200, .inl (zA (zu rc 0 (pk st)))))]) hx hb hK hP hD hS 9 0 rfl rfl (by omega) rfl dX5_standings_25 (fun H locs hP hD hS => ?_)
    refine zv_iconst hx hb dX5_standings_26 ?_
    refine lv_istore_n (lv' := [(1, .int (zI 1)), (0, .ref w0)]) hx hb dX5_standings_27 rfl hl (by decide) rfl (fun ls hl => ?_)
    refine zv_iconst hx hb dX5_standings_28 ?_
    refine lv_istore_n (lv' := [(2, .int (zI 0)), (1, .int (zI 1)), (0, .ref w0)]) hx hb dX5_standings_29 rfl hl (by decide) rfl (fun ls hl => ?_)
    exact cut30 _ 1 0 ([st]) (zu rc 0 (pk st)) (Nat.lt_succ_self _) (by exact ⟨rfl, by omega, by omega⟩) (by intro t ht; rw [List.mem_singleton.mp ht]; exact hs) (by omega) (by intro j h0 h1; rw [show j = 0 by omega, zu_s]; rfl) (by omega) (by unfold q_stand; rw [if_neg (by omega), show ((200 : Int) - 0).toNat = 200 by omega]; rfl) _ _ hP hD hS _ (lv_sub hl [2, 1, 0] rfl)
  · refine zv_bipush hx hb dX5_standings_10 (by decide +kernel) ?_
    rw [← hQQ]
    exact zw_iret hx hb hr hlocks (rc) (congrArg (fun z => some (Value.int (zI z))) (show q_stand so le ri ti lo n st = (-2) from by unfold q_stand; rw [if_pos (by omega)])) trivial hP hS dX5_standings_12
