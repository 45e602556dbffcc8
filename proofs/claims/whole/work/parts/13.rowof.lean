/-- what is still wanted: figures 1 .. 9, four at most -/
def wlOk (wl : List Int) : Prop := wl.length ≤ 4 ∧ ∀ d ∈ wl, 1 ≤ d ∧ d ≤ 9
theorem vl_bd : ∀ (wl : List Int), (∀ d ∈ wl, 1 ≤ d ∧ d ≤ 9) → 0 ≤ vl wl ∧ vl wl < 10 ^ wl.length
  | [], _ => by decide
  | d :: t, h => by
    have h1 := h d List.mem_cons_self
    have h2 := vl_bd t (fun x hx => h x (List.mem_cons_of_mem _ hx))
    show 0 ≤ d + 10 * vl t ∧ d + 10 * vl t < 10 ^ (t.length + 1)
    rw [Int.pow_succ]
    omega
theorem vl_rng {wl : List Int} (h : wlOk wl) : 0 ≤ vl wl ∧ vl wl ≤ 9999 := by
  have h1 := vl_bd wl h.2
  have h2 : (10 : Int) ^ wl.length ≤ 10 ^ 4 := by
    rcases (show wl.length = 0 ∨ wl.length = 1 ∨ wl.length = 2 ∨ wl.length = 3 ∨ wl.length = 4 by have := h.1; omega) with q | q | q | q | q <;> rw [q] <;> decide
  omega
theorem vl_nil {wl : List Int} (h : wlOk wl) : vl wl = 0 ↔ wl = [] := by
  constructor
  · intro q
    cases wl with
    | nil => rfl
    | cons d t =>
      have h1 := h.2 d List.mem_cons_self
      have h2 := vl_bd t (fun x hx => h.2 x (List.mem_cons_of_mem _ hx))
      have q2 : d + 10 * vl t = 0 := q
      omega
  · intro q
    rw [q]
    rfl
theorem wl_hd {d : Int} {t : List Int} (h : wlOk (d :: t)) : 1 ≤ d ∧ d ≤ 9 := h.2 d List.mem_cons_self
theorem wl_tl {d : Int} {t : List Int} (h : wlOk (d :: t)) : wlOk t := ⟨by have := h.1; simp only [List.length_cons] at this; omega, fun x hx => h.2 x (List.mem_cons_of_mem _ hx)⟩
theorem vl_m {d : Int} {t : List Int} (h : wlOk (d :: t)) : vl (d :: t) % 10 = d := by
  have h1 := wl_hd h
  have h2 := (vl_rng (wl_tl h)).1
  show (d + 10 * vl t) % 10 = d
  omega
theorem vl_q {d : Int} {t : List Int} (h : wlOk (d :: t)) : vl (d :: t) / 10 = vl t := by
  have h1 := wl_hd h
  have h2 := (vl_rng (wl_tl h)).1
  show (d + 10 * vl t) / 10 = vl t
  omega
theorem ds_vlf : ∀ (f : Nat) (wl : List Int), wl.length ≤ f → (∀ d ∈ wl, 1 ≤ d ∧ d ≤ 9) → ds f (vl wl) = wl
  | f, [], _, _ => ds_nil (by decide)
  | 0, d :: t, h, _ => by simp at h
  | f + 1, d :: t, h, hd => by
    have h1 := hd d List.mem_cons_self
    have h2 := vl_bd t (fun x hx => hd x (List.mem_cons_of_mem _ hx))
    have e : vl (d :: t) = d + 10 * vl t := rfl
    rw [ds_step (by omega), e, show (d + 10 * vl t) % 10 = d by omega, show (d + 10 * vl t) / 10 = vl t by omega, ds_vlf f t (by simpa using h) (fun x hx => hd x (List.mem_cons_of_mem _ hx))]
theorem ds_vl {wl : List Int} (h : wlOk wl) : ds 10 (vl wl) = wl := ds_vlf 10 wl (by have := h.1; omega) h.2
/-- one marble of size z tried, then R; the first row of just so many marbles -/
def roU (so le ri ti : Int → Int) (lo n : Int) (R : (Int → Int) → List Int → Int → Int) (st : Int → Int) (wl : List Int) (rr z : Int) : Int :=
  if (goS so le ri ti lo z 9 st (n - 1)).2 = -9 then R (goS so le ri ti lo z 9 st (n - 1)).1 wl (rr * 10 + z + 1)
  else if (goS so le ri ti lo z 9 st (n - 1)).2 = wl.headD 0 - 1 then R (goS so le ri ti lo z 9 st (n - 1)).1 wl.tail (rr * 10 + z + 1) else -9
def roS (so le ri ti : Int → Int) (lo n : Int) : Nat → (Int → Int) → List Int → Int → Int
  | 0 => fun _ wl rr => if wl = [] then rr else -9
  | f + 1 => fun st wl rr => if wl = [] ∨ f + 1 < wl.length then -9 else if roU so le ri ti lo n (roS so le ri ti lo n f) st wl rr 0 = -9 then roU so le ri ti lo n (roS so le ri ti lo n f) st wl rr 1 else roU so le ri ti lo n (roS so le ri ti lo n f) st wl rr 0
def roH (so le ri ti : Int → Int) (lo n : Int) (R : (Int → Int) → List Int → Int → Int) (st : Int → Int) (wl : List Int) (rr res z : Int) : Prop :=
  (z = 0 → res = if roU so le ri ti lo n R st wl rr 0 = -9 then roU so le ri ti lo n R st wl rr 1 else roU so le ri ti lo n R st wl rr 0) ∧ (z = 1 → res = roU so le ri ti lo n R st wl rr 1) ∧ (z = 2 → res = -9)
theorem roH_0 {so le ri ti : Int → Int} {lo n : Int} {st : Int → Int} {wl : List Int} {rr mb : Int} (h : 1 ≤ mb) (h1 : wl ≠ []) (h2 : ((wl.length : Nat) : Int) ≤ mb) : roH so le ri ti lo n (roS so le ri ti lo n (mb - 1).toNat) st wl rr (roS so le ri ti lo n mb.toNat st wl rr) 0 := by
  refine ⟨fun _ => ?_, fun q => by omega, fun q => by omega⟩
  rw [show mb.toNat = (mb - 1).toNat + 1 by omega]
  exact if_neg (fun q => by rcases q with q | q; exact h1 q; omega)
theorem roS_n {so le ri ti : Int → Int} {lo n : Int} {st : Int → Int} {wl : List Int} {rr mb : Int} (h : 1 ≤ mb) (h1 : wl = [] ∨ mb < ((wl.length : Nat) : Int)) : roS so le ri ti lo n mb.toNat st wl rr = -9 := by
  rw [show mb.toNat = (mb - 1).toNat + 1 by omega]
  exact if_pos (by rcases h1 with q | q; exact Or.inl q; exact Or.inr (by omega))
theorem roH_s {so le ri ti : Int → Int} {lo n : Int} {R : (Int → Int) → List Int → Int → Int} {st : Int → Int} {wl : List Int} {rr res z : Int} (hz : z = 0 ∨ z = 1) (h : roH so le ri ti lo n R st wl rr res z) (hU : roU so le ri ti lo n R st wl rr z = -9) : roH so le ri ti lo n R st wl rr res (z + 1) := by
  rcases hz with rfl | rfl
  · exact ⟨fun q => by omega, fun _ => by rw [h.1 rfl, if_pos hU], fun q => by omega⟩
  · exact ⟨fun q => by omega, fun q => by omega, fun _ => by rw [h.2.1 rfl, hU]⟩
theorem roH_r {so le ri ti : Int → Int} {lo n : Int} {R : (Int → Int) → List Int → Int → Int} {st : Int → Int} {wl : List Int} {rr res z : Int} (hz : z = 0 ∨ z = 1) (h : roH so le ri ti lo n R st wl rr res z) (hU : roU so le ri ti lo n R st wl rr z ≠ -9) : res = roU so le ri ti lo n R st wl rr z := by
  rcases hz with rfl | rfl
  · rw [h.1 rfl, if_neg hU]
  · exact h.2.1 rfl
theorem ro_rr {rr : Int} {k : Nat} (h : 0 ≤ rr ∧ (rr + 1) * 10 ^ k ≤ 1000000000) : 0 ≤ rr ∧ rr ≤ 999999999 := by
  refine ⟨h.1, ?_⟩
  have h1 : (1 : Int) ≤ 10 ^ k := Int.pow_pos (by decide)
  have h2 : (rr + 1) * 1 ≤ (rr + 1) * 10 ^ k := Int.mul_le_mul_of_nonneg_left h1 (by omega)
  omega
theorem ro_nx {rr z mb : Int} (hm : 1 ≤ mb) (h : 0 ≤ rr ∧ (rr + 1) * 10 ^ mb.toNat ≤ 1000000000) (hz : 0 ≤ z ∧ z ≤ 1) : 0 ≤ rr * 10 + z + 1 ∧ (rr * 10 + z + 1 + 1) * 10 ^ (mb - 1).toNat ≤ 1000000000 := by
  refine ⟨by omega, ?_⟩
  rw [show mb.toNat = (mb - 1).toNat + 1 by omega, Int.pow_succ] at h
  have h0 : (0 : Int) ≤ 10 ^ (mb - 1).toNat := Int.le_of_lt (Int.pow_pos (by decide))
  have h2 : (rr * 10 + z + 1 + 1) * 10 ^ (mb - 1).toNat ≤ ((rr + 1) * 10) * 10 ^ (mb - 1).toNat := Int.mul_le_mul_of_nonneg_right (by omega) h0
  have h3 : ((rr + 1) * 10) * 10 ^ (mb - 1).toNat = (rr + 1) * (10 ^ (mb - 1).toNat * 10) := by rw [Int.mul_assoc, Int.mul_comm 10]
  omega
theorem roS_rng {so le ri ti : Int → Int} {lo n : Int} : ∀ (f : Nat) (st : Int → Int) (wl : List Int) (rr : Int), 0 ≤ rr ∧ (rr + 1) * 10 ^ f ≤ 1000000000 → -9 ≤ roS so le ri ti lo n f st wl rr ∧ roS so le ri ti lo n f st wl rr ≤ 999999999
  | 0, st, wl, rr, h => by
    have h1 := ro_rr h
    show -9 ≤ (if wl = [] then rr else -9) ∧ (if wl = [] then rr else -9) ≤ 999999999
    split <;> omega
  | f + 1, st, wl, rr, h => by
    have u : ∀ z : Int, 0 ≤ z ∧ z ≤ 1 → -9 ≤ roU so le ri ti lo n (roS so le ri ti lo n f) st wl rr z ∧ roU so le ri ti lo n (roS so le ri ti lo n f) st wl rr z ≤ 999999999 := by
      intro z hz
      have h2 := ro_nx (mb := (f : Int) + 1) (by omega) (by rw [show ((f : Int) + 1).toNat = f + 1 by omega]; exact h) hz
      rw [show ((f : Int) + 1 - 1).toNat = f by omega] at h2
      unfold roU
      split
      · exact roS_rng f _ _ _ h2
      · split
        · exact roS_rng f _ _ _ h2
        · omega
    have u0 := u 0 (by omega)
    have u1 := u 1 (by omega)
    show -9 ≤ (if wl = [] ∨ f + 1 < wl.length then (-9 : Int) else if roU so le ri ti lo n (roS so le ri ti lo n f) st wl rr 0 = -9 then roU so le ri ti lo n (roS so le ri ti lo n f) st wl rr 1 else roU so le ri ti lo n (roS so le ri ti lo n f) st wl rr 0) ∧ (if wl = [] ∨ f + 1 < wl.length then (-9 : Int) else if roU so le ri ti lo n (roS so le ri ti lo n f) st wl rr 0 = -9 then roU so le ri ti lo n (roS so le ri ti lo n f) st wl rr 1 else roU so le ri ti lo n (roS so le ri ti lo n f) st wl rr 0) ≤ 999999999
    split
    · omega
    · split
      · exact u1
      · exact u0
set_option maxHeartbeats 4000000 in
set_option maxRecDepth 100000 in
theorem c_X5_rowOf_d (l : Launch) (dC : Nat → ClassId) (dI : Nat → Nat → Nat) (cI cB cZ : ClassId) (w0 : Nat) (x0 : Nat) (h0 : Nat) (g0 : Nat) (p0 : Nat) (q0 : Nat) (r0 : Nat) (fk : Int) (sk : Int) (t0 : Nat) (b1 : Nat) (b2 : Nat) (tr : Int64) (h1 : Nat) (h2 : Nat) (h3 : Nat) (h4 : Nat) (n : Int) (so : Int → Int) (le : Int → Int) (ri : Int → Int) (ti : Int → Int) (p1 : Nat) (p2 : Nat) (sp : Int → Int) (lo : Int) (li : Int) (kn : Int) (hh : hOk n so le ri ti) (hn1 : 1 ≤ n) (hlo : -9 ≤ lo ∧ lo ≤ 8) (hX : True) (d : Nat) (IH : ∀ d' : Nat, d' < d → ∀ (mb : Int) (st : Int → Int) (wl : List Int) (rr : Int) (hmb : 0 ≤ mb ∧ mb ≤ 9 ∧ mb ≤ (d' : Int)) (hs : sOk n so ti st) (hw : wlOk wl) (hrr : 0 ≤ rr ∧ (rr + 1) * 10 ^ mb.toNat ≤ 1000000000), MetR l yX5_rowOf wsX5_rowOf ({ frames := 2 + d', cells := 0, slots := 0, locals := 52 + 29 * d' }) (dC, dI) vwCl (zT cI cB cZ) zN [(w0, .inr (4, [.ref x0, .ref h0, .ref g0, .ref p0, .ref q0, .ref r0, .int (zI fk), .int (zI sk), .ref t0, .ref b1, .ref b2, .long tr])), (h0, .inr (0, [.int (zI n), .ref h1, .ref h2, .ref h3, .ref h4])), (h1, .inl (cI, 9, .inl (zA so))), (h2, .inl (cI, 9, .inl (zA le))), (h3, .inl (cI, 9, .inl (zA ri))), (h4, .inl (cI, 9, .inl (zA ti))), (p0, .inr (1, [.int (zI (pk sp)), .int (zI lo), .int (zI li), .int (zI kn), .ref p1, .ref p2]))] [.ref w0, .int (zI mb), .int (zI (pk st)), .int (zI (vl wl)), .int (zI rr)] (zI (roS so le ri ti lo n mb.toNat st wl rr))) (mb : Int) (st : Int → Int) (wl : List Int) (rr : Int) (hmb : 0 ≤ mb ∧ mb ≤ 9 ∧ mb ≤ (d : Int)) (hs : sOk n so ti st) (hw : wlOk wl) (hrr : 0 ≤ rr ∧ (rr + 1) * 10 ^ mb.toNat ≤ 1000000000) : MetR l yX5_rowOf wsX5_rowOf ({ frames := 2 + d, cells := 0, slots := 0, locals := 52 + 29 * d }) (dC, dI) vwCl (zT cI cB cZ) zN [(w0, .inr (4, [.ref x0, .ref h0, .ref g0, .ref p0, .ref q0, .ref r0, .int (zI fk), .int (zI sk), .ref t0, .ref b1, .ref b2, .long tr])), (h0, .inr (0, [.int (zI n), .ref h1, .ref h2, .ref h3, .ref h4])), (h1, .inl (cI, 9, .inl (zA so))), (h2, .inl (cI, 9, .inl (zA le))), (h3, .inl (cI, 9, .inl (zA ri))), (h4, .inl (cI, 9, .inl (zA ti))), (p0, .inr (1, [.int (zI (pk sp)), .int (zI lo), .int (zI li), .int (zI kn), .ref p1, .ref p2]))] [.ref w0, .int (zI mb), .int (zI (pk st)), .int (zI (vl wl)), .int (zI rr)] (zI (roS so le ri ti lo n mb.toNat st wl rr)) := by
  refine MetR.intro (cc := cX5_rowOf) (maxL := 10) (ret := (some .int)) (by decide) rfl (Nat.le_of_ble_eq_true rfl) ?_
  intro p e s m args below meth c hx hb hr hlocks hml hts hown hP hK hE ls hl
  have hown : s.vm.findClass RX5 = some m.cls := hown
  have hl : lv_has ls 10 [(0, .ref w0), (1, .int (zI mb)), (2, .int (zI (pk st))), (3, .int (zI (vl wl))), (4, .int (zI rr))] := hl
  generalize hRM : ({ frames := 2 + d, cells := 0, slots := 0, locals := 52 + 29 * d } : Room) = RM
  generalize hQQ : MQ below (vp_Si (fun r => r = zI (roS so le ri ti lo n mb.toNat st wl rr))) args s 0 0 (fun _ => False) = QQ
  have in_X1 : ∀ w ∈ wsX10, w ∈ wsX5_rowOf := by decide +kernel
  have in_X5 : ∀ w ∈ wsX50, w ∈ wsX5_rowOf := by decide +kernel
  have w_0 := hts (.fieldLink RX5 19 "WallMarbles" "built" "LWallMarbles$House;") (by decide +kernel)
  have w_1 := hts (.fieldLink RX5 29 "WallMarbles" "present" "LWallMarbles$Present;") (by decide +kernel)
  have n_116 := va_Nw.use (A := args) rfl (zN_4 hE)
  have hn := hh.1
  have v1 := vl_rng hw
  have wl4 := hw.1
  have e10 : 0 ≤ rr ∧ rr ≤ 999999999 := ro_rr hrr
  have cut40 : ∀ (nM : Nat) (z : Int),  ((2 - z).toNat) < nM → (0 ≤ z ∧ z ≤ 2) → (wl ≠ []) → (1 ≤ mb) → (roH so le ri ti lo n (roS so le ri ti lo n (mb - 1).toNat) st wl rr (roS so le ri ti lo n mb.toNat st wl rr) z) → ∀ ls : Array Slot, lv_has ls 10 [(0, .ref w0), (1, .int (zI mb)), (2, .int (zI (pk st))), (3, .int (zI (vl wl))), (4, .int (zI rr)), (5, .int (zI z))] → W p l e RM s m args below meth c s.heap [] 0 0 QQ (F0 m 40 ls []) := by
    intro nM
    induction nM with
    | zero => intro z hmu; exact absurd hmu (Nat.not_lt_zero _)
    | succ nM ih40 =>
      intro z hmu hz hw1 hm1 hres ls hl
      refine lv_iload hx hb dX5_rowOf_40 (lv_at hl 5 rfl) ?_
      refine zv_iconst hx hb dX5_rowOf_42 ?_
      refine zv_icmp_gt (tgt := 149) hx hb (by omega) (by omega) dX5_rowOf_43 (by decide) (fun c_43 => ?_) (fun c_43 => ?_)
      · refine zv_bipush hx hb dX5_rowOf_149 (by decide +kernel) ?_
        rw [← hQQ]
        exact zr_iret hx hb hr hlocks (congrArg zI (show (-9) = roS so le ri ti lo n mb.toNat st wl rr from by exact (hres.2.2 (by omega)).symm)) dX5_rowOf_151
      · have z9 : z = 0 ∨ z = 1 := by omega
        obtain ⟨g1, g2⟩ := goS_ok hh lo z 9 st (n - 1) (by omega) (by omega) hs
        have g3 := sOk_s7 hh g1
        obtain ⟨dW, tW, eW⟩ : ∃ a b, wl = a :: b := List.exists_cons_of_ne_nil hw1
        have d9 := wl_hd (eW ▸ hw)
        have t9 := wl_tl (eW ▸ hw)
        have m10 := vl_m (eW ▸ hw)
        have q10 := vl_q (eW ▸ hw)
        rw [← eW] at m10 q10
        have hr2 := ro_nx (z := z) hm1 hrr (by omega)
        refine lv_aload_n hx hb dX5_rowOf_46 rfl (lv_at hl 0 rfl) ?_
        refine va_get (D := (dC, dI)) (ci := 4) (v := .ref h0) (C := RX5) (T := TX5) (N := 12) hx hb hts in_X5 hown hK hP 0 rfl rfl 1 (by decide) w_0 (fun _ h9 => h9) rfl dX5_rowOf_47 ?_
        refine lv_iload_n hx hb dX5_rowOf_50 rfl (lv_at hl 2 rfl) ?_
        refine lv_iload hx hb dX5_rowOf_51 (lv_at hl 5 rfl) ?_
        refine lv_aload_n hx hb dX5_rowOf_53 rfl (lv_at hl 0 rfl) ?_
        refine va_get (D := (dC, dI)) (ci := 4) (v := .ref p0) (C := RX5) (T := TX5) (N := 12) hx hb hts in_X5 hown hK hP 0 rfl rfl 3 (by decide) w_1 (fun _ h9 => h9) rfl dX5_rowOf_54 ?_
        refine va_getN (D := (dC, dI)) (ci := 1) (v := .int (zI lo)) (C := RX1) (T := TX1) (N := 6) hx hb hts in_X1 hown hK hP 6 rfl rfl 1 (by decide) n_116 (fun _ h9 => h9) rfl dX5_rowOf_57 ?_
        refine zv_callRV (As := [.int (zI (pk st)), .int (zI z), .int (zI lo)]) (rest := []) ⟨hx, hb, hml, hown, hts⟩ (c_X0_fall l dC dI cI cB cZ h0 h1 h2 h3 h4 n so le ri ti st z lo (by exact hh) (by omega) (by exact hs) (by omega) (by omega)) (cwV 3 hts gX5_rowOf_X0_fall rfl rfl rfl (by decide +kernel) ⟨by rw [← hRM]; first | decide | (dsimp only; omega), by rw [← hRM]; first | decide | (dsimp only; omega)⟩) hP hK [1, 2, 3, 4, 5] rfl [0, 1, 2] rfl zN_bl (zN_go hE) (q0 := 0) rfl rfl rfl rfl hl.1 rfl (Nat.le_of_ble_eq_true rfl) dX5_rowOf_60 ⟨Nat.zero_le _, Nat.zero_le _⟩ ?_
        refine lv_istore (lv' := [(6, .int (zI (oc (pk (goS so le ri ti lo z 9 st (n - 1)).1) (goS so le ri ti lo z 9 st (n - 1)).2))), (0, .ref w0), (1, .int (zI mb)), (2, .int (zI (pk st))), (3, .int (zI (vl wl))), (4, .int (zI rr)), (5, .int (zI z))]) hx hb dX5_rowOf_63 hl (by decide) rfl (fun ls hl => ?_)
        refine lv_iload hx hb dX5_rowOf_65 (lv_at hl 0 rfl) ?_
        refine zv_callRS (As := [.int (zI (oc (pk (goS so le ri ti lo z 9 st (n - 1)).1) (goS so le ri ti lo z 9 st (n - 1)).2))]) (rest := []) ⟨hx, hb, hml, hown, hts⟩ (c_X2_comesOf l dC dI cI cB cZ ((goS so le ri ti lo z 9 st (n - 1)).1) ((goS so le ri ti lo z 9 st (n - 1)).2) (by exact g3) (by omega)) (va_cwS 1 hts gX5_rowOf_X2_comesOf rfl rfl rfl (by decide +kernel) ⟨by rw [← hRM]; first | decide | (dsimp only; omega), by rw [← hRM]; first | decide | (dsimp only; omega)⟩) hP hK [] rfl [0, 1, 2] rfl zN_bl (zN_go hE) rfl hl.1 rfl (Nat.le_of_ble_eq_true rfl) dX5_rowOf_67 ⟨Nat.zero_le _, Nat.zero_le _⟩ ?_
        refine lv_istore (lv' := [(7, .int (zI (((goS so le ri ti lo z 9 st (n - 1)).2)))), (6, .int (zI (oc (pk (goS so le ri ti lo z 9 st (n - 1)).1) (goS so le ri ti lo z 9 st (n - 1)).2))), (0, .ref w0), (1, .int (zI mb)), (2, .int (zI (pk st))), (3, .int (zI (vl wl))), (4, .int (zI rr)), (5, .int (zI z))]) hx hb dX5_rowOf_70 hl (by decide) rfl (fun ls hl => ?_)
        refine lv_iload hx hb dX5_rowOf_72 (lv_at hl 0 rfl) ?_
        refine zv_bipush hx hb dX5_rowOf_74 (by decide +kernel) ?_
        refine zv_icmp_eq (tgt := 90) hx hb (by omega) (by omega) dX5_rowOf_76 (by decide) (fun c_76 => ?_) (fun c_76 => ?_)
        · refine lv_iload hx hb dX5_rowOf_90 (lv_at hl 0 rfl) ?_
          refine zv_bipush hx hb dX5_rowOf_92 (by decide +kernel) ?_
          refine zv_icmp_ne (tgt := 101) hx hb (by omega) (by omega) dX5_rowOf_94 (by decide) (fun c_94 => ?_) (fun c_94 => ?_)
          · exfalso; omega
          · refine lv_iload_n hx hb dX5_rowOf_97 rfl (lv_at hl 5 rfl) ?_
            refine lv_goto (tgt := 105) hx hb dX5_rowOf_98 (by decide) ?_
            refine lv_istore (lv' := [(8, .int (zI (vl wl))), (7, .int (zI (((goS so le ri ti lo z 9 st (n - 1)).2)))), (6, .int (zI (oc (pk (goS so le ri ti lo z 9 st (n - 1)).1) (goS so le ri ti lo z 9 st (n - 1)).2))), (0, .ref w0), (1, .int (zI mb)), (2, .int (zI (pk st))), (3, .int (zI (vl wl))), (4, .int (zI rr)), (5, .int (zI z))]) hx hb dX5_rowOf_105 hl (by decide) rfl (fun ls hl => ?_)
            refine lv_aload_n hx hb dX5_rowOf_107 rfl (lv_at hl 3 rfl) ?_
            refine lv_iload_n hx hb dX5_rowOf_108 rfl (lv_at hl 4 rfl) ?_
            refine zv_iconst hx hb dX5_rowOf_109 ?_
            refine zv_isub hx hb dX5_rowOf_110 ?_
            refine lv_iload hx hb dX5_rowOf_111 (lv_at hl 2 rfl) ?_
            refine zv_callRS (As := [.int (zI (oc (pk (goS so le ri ti lo z 9 st (n - 1)).1) (goS so le ri ti lo z 9 st (n - 1)).2))]) (rest := [.int (zI (mb - 1)), .ref w0]) ⟨hx, hb, hml, hown, hts⟩ (c_X2_standingOf l dC dI cI cB cZ ((goS so le ri ti lo z 9 st (n - 1)).1) ((goS so le ri ti lo z 9 st (n - 1)).2) (by exact g3) (by omega)) (va_cwS 1 hts gX5_rowOf_X2_standingOf rfl rfl rfl (by decide +kernel) ⟨by rw [← hRM]; first | decide | (dsimp only; omega), by rw [← hRM]; first | decide | (dsimp only; omega)⟩) hP hK [] rfl [0, 1, 2] rfl zN_bl (zN_go hE) rfl hl.1 rfl (Nat.le_of_ble_eq_true rfl) dX5_rowOf_113 ⟨Nat.zero_le _, Nat.zero_le _⟩ ?_
            refine lv_iload hx hb dX5_rowOf_116 (lv_at hl 0 rfl) ?_
            refine lv_iload hx hb dX5_rowOf_118 (lv_at hl 7 rfl) ?_
            refine zv_bipush hx hb dX5_rowOf_120 (by decide +kernel) ?_
            refine zv_imul hx hb dX5_rowOf_122 ?_
            refine lv_iload hx hb dX5_rowOf_123 (lv_at hl 8 rfl) ?_
            refine zv_iadd hx hb dX5_rowOf_125 ?_
            refine zv_iconst hx hb dX5_rowOf_126 ?_
            refine zv_iadd hx hb dX5_rowOf_127 ?_
            refine zv_callRV (As := [.int (zI (mb - 1)), .int (zI (pk ((goS so le ri ti lo z 9 st (n - 1)).1))), .int (zI (vl wl)), .int (zI (((rr * 10) + z) + 1))]) (rest := []) ⟨hx, hb, hml, hown, hts⟩ (IH (d - 1) (by omega) (mb - 1) ((goS so le ri ti lo z 9 st (n - 1)).1) wl (((rr * 10) + z) + 1) (by omega) (by exact g1) (by first | exact hw | exact t9) (by exact hr2)) (cwV 4 hts gX5_rowOf_X5_rowOf rfl rfl rfl (by decide +kernel) ⟨by rw [← hRM]; first | decide | (dsimp only; omega), by rw [← hRM]; first | decide | (dsimp only; omega)⟩) hP hK [0, 1, 2, 3, 4, 5, 6] rfl [0, 1, 2] rfl zN_bl (zN_go hE) (q0 := 0) rfl rfl rfl rfl hl.1 rfl (Nat.le_of_ble_eq_true rfl) dX5_rowOf_128 ⟨Nat.zero_le _, Nat.zero_le _⟩ ?_
            have hU : roU so le ri ti lo n (roS so le ri ti lo n (mb - 1).toNat) st wl rr z = roS so le ri ti lo n (mb - 1).toNat ((goS so le ri ti lo z 9 st (n - 1)).1) wl (((rr * 10) + z) + 1) := by unfold roU; rw [if_pos c_76]
            have rz := roS_rng (so := so) (le := le) (ri := ri) (ti := ti) (lo := lo) (n := n) (mb - 1).toNat (goS so le ri ti lo z 9 st (n - 1)).1 wl (((rr * 10) + z) + 1) hr2
            refine lv_istore (lv' := [(9, .int (zI (roS so le ri ti lo n (mb - 1).toNat ((goS so le ri ti lo z 9 st (n - 1)).1) wl (((rr * 10) + z) + 1)))), (8, .int (zI (vl wl))), (7, .int (zI (((goS so le ri ti lo z 9 st (n - 1)).2)))), (6, .int (zI (oc (pk (goS so le ri ti lo z 9 st (n - 1)).1) (goS so le ri ti lo z 9 st (n - 1)).2))), (0, .ref w0), (1, .int (zI mb)), (2, .int (zI (pk st))), (3, .int (zI (vl wl))), (4, .int (zI rr)), (5, .int (zI z))]) hx hb dX5_rowOf_131 hl (by decide) rfl (fun ls hl => ?_)
            refine lv_iload hx hb dX5_rowOf_133 (lv_at hl 0 rfl) ?_
            refine zv_bipush hx hb dX5_rowOf_135 (by decide +kernel) ?_
            refine zv_icmp_eq (tgt := 143) hx hb (by omega) (by omega) dX5_rowOf_137 (by decide) (fun c_137 => ?_) (fun c_137 => ?_)
            · refine zv_iinc (k := 9) (a := z) (n := 1) (lv' := [(5, .int (zI (z + 1))), (9, .int (zI (roS so le ri ti lo n (mb - 1).toNat ((goS so le ri ti lo z 9 st (n - 1)).1) wl (((rr * 10) + z) + 1)))), (8, .int (zI (vl wl))), (7, .int (zI (((goS so le ri ti lo z 9 st (n - 1)).2)))), (6, .int (zI (oc (pk (goS so le ri ti lo z 9 st (n - 1)).1) (goS so le ri ti lo z 9 st (n - 1)).2))), (0, .ref w0), (1, .int (zI mb)), (2, .int (zI (pk st))), (3, .int (zI (vl wl))), (4, .int (zI rr))]) hx hb dX5_rowOf_143 hl rfl (by decide) rfl (fun ls hl => ?_)
              refine lv_goto (tgt := 40) hx hb dX5_rowOf_146 (by decide) ?_
              exact ih40 (z + 1) (by omega) (by omega) (by exact hw1) (by exact hm1) (by first | exact roH_s z9 hres hU | exact roH_s z9 hres (hU.trans c_137)) _ (lv_sub hl [5, 6, 7, 8, 9, 0] rfl)
            · refine lv_iload hx hb dX5_rowOf_140 (lv_at hl 0 rfl) ?_
              rw [← hQQ]
              exact zr_iret hx hb hr hlocks (congrArg zI (show roS so le ri ti lo n (mb - 1).toNat ((goS so le ri ti lo z 9 st (n - 1)).1) wl (((rr * 10) + z) + 1) = roS so le ri ti lo n mb.toNat st wl rr from by rw [← hU]; exact (roH_r z9 hres (by rw [hU]; exact c_137)).symm)) dX5_rowOf_142
        · refine lv_iload hx hb dX5_rowOf_79 (lv_at hl 0 rfl) ?_
          refine lv_iload_n hx hb dX5_rowOf_81 rfl (lv_at hl 5 rfl) ?_
          refine zv_bipush hx hb dX5_rowOf_82 (by decide +kernel) ?_
          refine zv_irem hx hb (by omega) dX5_rowOf_84 ?_
          refine zv_iconst hx hb dX5_rowOf_85 ?_
          refine zv_isub hx hb dX5_rowOf_86 ?_
          refine zv_icmp_ne (tgt := 143) hx hb (by omega) (by omega) dX5_rowOf_87 (by decide) (fun c_87 => ?_) (fun c_87 => ?_)
          · have hU : roU so le ri ti lo n (roS so le ri ti lo n (mb - 1).toNat) st wl rr z = -9 := by unfold roU; rw [if_neg c_76, if_neg (by rw [eW]; show ¬ (goS so le ri ti lo z 9 st (n - 1)).2 = dW - 1; omega)]
            refine zv_iinc (k := 7) (a := z) (n := 1) (lv' := [(5, .int (zI (z + 1))), (7, .int (zI (((goS so le ri ti lo z 9 st (n - 1)).2)))), (6, .int (zI (oc (pk (goS so le ri ti lo z 9 st (n - 1)).1) (goS so le ri ti lo z 9 st (n - 1)).2))), (0, .ref w0), (1, .int (zI mb)), (2, .int (zI (pk st))), (3, .int (zI (vl wl))), (4, .int (zI rr))]) hx hb dX5_rowOf_143 hl rfl (by decide) rfl (fun ls hl => ?_)
            refine lv_goto (tgt := 40) hx hb dX5_rowOf_146 (by decide) ?_
            exact ih40 (z + 1) (by omega) (by omega) (by exact hw1) (by exact hm1) (by first | exact roH_s z9 hres hU | exact roH_s z9 hres (hU.trans c_137)) _ (lv_sub hl [3, 4, 5, 6, 7, 0] rfl)
          · refine lv_iload hx hb dX5_rowOf_90 (lv_at hl 0 rfl) ?_
            refine zv_bipush hx hb dX5_rowOf_92 (by decide +kernel) ?_
            refine zv_icmp_ne (tgt := 101) hx hb (by omega) (by omega) dX5_rowOf_94 (by decide) (fun c_94 => ?_) (fun c_94 => ?_)
            · refine lv_iload_n hx hb dX5_rowOf_101 rfl (lv_at hl 5 rfl) ?_
              refine zv_bipush hx hb dX5_rowOf_102 (by decide +kernel) ?_
              refine zv_idiv hx hb (by omega) dX5_rowOf_104 ?_
              rw [show ((vl wl) / 10) = vl tW from q10]
              refine lv_istore (lv' := [(8, .int (zI (vl tW))), (7, .int (zI (((goS so le ri ti lo z 9 st (n - 1)).2)))), (6, .int (zI (oc (pk (goS so le ri ti lo z 9 st (n - 1)).1) (goS so le ri ti lo z 9 st (n - 1)).2))), (0, .ref w0), (1, .int (zI mb)), (2, .int (zI (pk st))), (3, .int (zI (vl wl))), (4, .int (zI rr)), (5, .int (zI z))]) hx hb dX5_rowOf_105 hl (by decide) rfl (fun ls hl => ?_)
              refine lv_aload_n hx hb dX5_rowOf_107 rfl (lv_at hl 3 rfl) ?_
              refine lv_iload_n hx hb dX5_rowOf_108 rfl (lv_at hl 4 rfl) ?_
              refine zv_iconst hx hb dX5_rowOf_109 ?_
              refine zv_isub hx hb dX5_rowOf_110 ?_
              refine lv_iload hx hb dX5_rowOf_111 (lv_at hl 2 rfl) ?_
              refine zv_callRS (As := [.int (zI (oc (pk (goS so le ri ti lo z 9 st (n - 1)).1) (goS so le ri ti lo z 9 st (n - 1)).2))]) (rest := [.int (zI (mb - 1)), .ref w0]) ⟨hx, hb, hml, hown, hts⟩ (c_X2_standingOf l dC dI cI cB cZ ((goS so le ri ti lo z 9 st (n - 1)).1) ((goS so le ri ti lo z 9 st (n - 1)).2) (by exact g3) (by omega)) (va_cwS 1 hts gX5_rowOf_X2_standingOf rfl rfl rfl (by decide +kernel) ⟨by rw [← hRM]; first | decide | (dsimp only; omega), by rw [← hRM]; first | decide | (dsimp only; omega)⟩) hP hK [] rfl [0, 1, 2] rfl zN_bl (zN_go hE) rfl hl.1 rfl (Nat.le_of_ble_eq_true rfl) dX5_rowOf_113 ⟨Nat.zero_le _, Nat.zero_le _⟩ ?_
              refine lv_iload hx hb dX5_rowOf_116 (lv_at hl 0 rfl) ?_
              refine lv_iload hx hb dX5_rowOf_118 (lv_at hl 7 rfl) ?_
              refine zv_bipush hx hb dX5_rowOf_120 (by decide +kernel) ?_
              refine zv_imul hx hb dX5_rowOf_122 ?_
              refine lv_iload hx hb dX5_rowOf_123 (lv_at hl 8 rfl) ?_
              refine zv_iadd hx hb dX5_rowOf_125 ?_
              refine zv_iconst hx hb dX5_rowOf_126 ?_
              refine zv_iadd hx hb dX5_rowOf_127 ?_
              refine zv_callRV (As := [.int (zI (mb - 1)), .int (zI (pk ((goS so le ri ti lo z 9 st (n - 1)).1))), .int (zI (vl tW)), .int (zI (((rr * 10) + z) + 1))]) (rest := []) ⟨hx, hb, hml, hown, hts⟩ (IH (d - 1) (by omega) (mb - 1) ((goS so le ri ti lo z 9 st (n - 1)).1) tW (((rr * 10) + z) + 1) (by omega) (by exact g1) (by first | exact hw | exact t9) (by exact hr2)) (cwV 4 hts gX5_rowOf_X5_rowOf rfl rfl rfl (by decide +kernel) ⟨by rw [← hRM]; first | decide | (dsimp only; omega), by rw [← hRM]; first | decide | (dsimp only; omega)⟩) hP hK [0, 1, 2, 3, 4, 5, 6] rfl [0, 1, 2] rfl zN_bl (zN_go hE) (q0 := 0) rfl rfl rfl rfl hl.1 rfl (Nat.le_of_ble_eq_true rfl) dX5_rowOf_128 ⟨Nat.zero_le _, Nat.zero_le _⟩ ?_
              have hU : roU so le ri ti lo n (roS so le ri ti lo n (mb - 1).toNat) st wl rr z = roS so le ri ti lo n (mb - 1).toNat ((goS so le ri ti lo z 9 st (n - 1)).1) tW (((rr * 10) + z) + 1) := by unfold roU; rw [if_neg c_76, if_pos (by rw [eW]; show (goS so le ri ti lo z 9 st (n - 1)).2 = dW - 1; omega), eW]; rfl
              have rz := roS_rng (so := so) (le := le) (ri := ri) (ti := ti) (lo := lo) (n := n) (mb - 1).toNat (goS so le ri ti lo z 9 st (n - 1)).1 tW (((rr * 10) + z) + 1) hr2
              refine lv_istore (lv' := [(9, .int (zI (roS so le ri ti lo n (mb - 1).toNat ((goS so le ri ti lo z 9 st (n - 1)).1) tW (((rr * 10) + z) + 1)))), (8, .int (zI (vl tW))), (7, .int (zI (((goS so le ri ti lo z 9 st (n - 1)).2)))), (6, .int (zI (oc (pk (goS so le ri ti lo z 9 st (n - 1)).1) (goS so le ri ti lo z 9 st (n - 1)).2))), (0, .ref w0), (1, .int (zI mb)), (2, .int (zI (pk st))), (3, .int (zI (vl wl))), (4, .int (zI rr)), (5, .int (zI z))]) hx hb dX5_rowOf_131 hl (by decide) rfl (fun ls hl => ?_)
              refine lv_iload hx hb dX5_rowOf_133 (lv_at hl 0 rfl) ?_
              refine zv_bipush hx hb dX5_rowOf_135 (by decide +kernel) ?_
              refine zv_icmp_eq (tgt := 143) hx hb (by omega) (by omega) dX5_rowOf_137 (by decide) (fun c_137 => ?_) (fun c_137 => ?_)
              · refine zv_iinc (k := 9) (a := z) (n := 1) (lv' := [(5, .int (zI (z + 1))), (9, .int (zI (roS so le ri ti lo n (mb - 1).toNat ((goS so le ri ti lo z 9 st (n - 1)).1) tW (((rr * 10) + z) + 1)))), (8, .int (zI (vl tW))), (7, .int (zI (((goS so le ri ti lo z 9 st (n - 1)).2)))), (6, .int (zI (oc (pk (goS so le ri ti lo z 9 st (n - 1)).1) (goS so le ri ti lo z 9 st (n - 1)).2))), (0, .ref w0), (1, .int (zI mb)), (2, .int (zI (pk st))), (3, .int (zI (vl wl))), (4, .int (zI rr))]) hx hb dX5_rowOf_143 hl rfl (by decide) rfl (fun ls hl => ?_)
                refine lv_goto (tgt := 40) hx hb dX5_rowOf_146 (by decide) ?_
                exact ih40 (z + 1) (by omega) (by omega) (by exact hw1) (by exact hm1) (by first | exact roH_s z9 hres hU | exact roH_s z9 hres (hU.trans c_137)) _ (lv_sub hl [5, 6, 7, 8, 9, 0] rfl)
              · refine lv_iload hx hb dX5_rowOf_140 (lv_at hl 0 rfl) ?_
                rw [← hQQ]
                exact zr_iret hx hb hr hlocks (congrArg zI (show roS so le ri ti lo n (mb - 1).toNat ((goS so le ri ti lo z 9 st (n - 1)).1) tW (((rr * 10) + z) + 1) = roS so le ri ti lo n mb.toNat st wl rr from by rw [← hU]; exact (roH_r z9 hres (by rw [hU]; exact c_137)).symm)) dX5_rowOf_142
            · exfalso; omega
  refine lv_iload_n hx hb dX5_rowOf_0 rfl (lv_at hl 1 rfl) ?_
  refine zv_if_le (tgt := 10) hx hb (by omega) dX5_rowOf_1 (by decide) (fun c_1 => ?_) (fun c_1 => ?_)
  · refine lv_iload_n hx hb dX5_rowOf_10 rfl (lv_at hl 3 rfl) ?_
    refine zv_if_ne (tgt := 19) hx hb (by omega) dX5_rowOf_11 (by decide) (fun c_11 => ?_) (fun c_11 => ?_)
    · refine zv_bipush hx hb dX5_rowOf_19 (by decide +kernel) ?_
      rw [← hQQ]
      exact zr_iret hx hb hr hlocks (congrArg zI (show (-9) = roS so le ri ti lo n mb.toNat st wl rr from by rw [show mb = 0 by omega]; first | (exact (if_pos ((vl_nil hw).mp c_11)).symm) | (exact (if_neg (fun q => c_11 ((vl_nil hw).mpr q))).symm))) dX5_rowOf_21
    · refine lv_iload hx hb dX5_rowOf_14 (lv_at hl 4 rfl) ?_
      refine lv_goto (tgt := 21) hx hb dX5_rowOf_16 (by decide) ?_
      rw [← hQQ]
      exact zr_iret hx hb hr hlocks (congrArg zI (show rr = roS so le ri ti lo n mb.toNat st wl rr from by rw [show mb = 0 by omega]; first | (exact (if_pos ((vl_nil hw).mp c_11)).symm) | (exact (if_neg (fun q => c_11 ((vl_nil hw).mpr q))).symm))) dX5_rowOf_21
  · refine lv_iload_n hx hb dX5_rowOf_4 rfl (lv_at hl 1 rfl) ?_
    refine zv_bipush hx hb dX5_rowOf_5 (by decide +kernel) ?_
    refine zv_icmp_le (tgt := 22) hx hb (by omega) (by omega) dX5_rowOf_7 (by decide) (fun c_7 => ?_) (fun c_7 => ?_)
    · refine lv_iload_n hx hb dX5_rowOf_22 rfl (lv_at hl 3 rfl) ?_
      refine zv_if_eq (tgt := 34) hx hb (by omega) dX5_rowOf_23 (by decide) (fun c_23 => ?_) (fun c_23 => ?_)
      · refine zv_bipush hx hb dX5_rowOf_34 (by decide +kernel) ?_
        rw [← hQQ]
        exact zr_iret hx hb hr hlocks (congrArg zI (show (-9) = roS so le ri ti lo n mb.toNat st wl rr from by first | exact (roS_n (by omega) (Or.inl ((vl_nil hw).mp c_23))).symm | exact (roS_n (by omega) (Or.inr (by omega))).symm)) dX5_rowOf_36
      · refine lv_iload_n hx hb dX5_rowOf_26 rfl (lv_at hl 3 rfl) ?_
        refine zv_callRS (As := [.int (zI (vl wl))]) (rest := []) ⟨hx, hb, hml, hown, hts⟩ (c_X5_figures l dC dI cI cB cZ (vl wl) (by omega)) (va_cwS 1 hts gX5_rowOf_X5_figures rfl rfl rfl (by decide +kernel) ⟨by rw [← hRM]; first | decide | (dsimp only; omega), by rw [← hRM]; first | decide | (dsimp only; omega)⟩) hP hK [] rfl [0, 1, 2] rfl zN_bl (zN_go hE) rfl hl.1 rfl (Nat.le_of_ble_eq_true rfl) dX5_rowOf_27 ⟨Nat.zero_le _, Nat.zero_le _⟩ ?_
        rw [show (((ds 10 (vl wl)).length : Int)) = ((wl.length : Nat) : Int) from by rw [ds_vl hw]]
        refine lv_iload_n hx hb dX5_rowOf_30 rfl (lv_at hl 1 rfl) ?_
        refine zv_icmp_le (tgt := 37) hx hb (by omega) (by omega) dX5_rowOf_31 (by decide) (fun c_31 => ?_) (fun c_31 => ?_)
        · refine zv_iconst hx hb dX5_rowOf_37 ?_
          refine lv_istore (lv' := [(5, .int (zI 0)), (0, .ref w0), (1, .int (zI mb)), (2, .int (zI (pk st))), (3, .int (zI (vl wl))), (4, .int (zI rr))]) hx hb dX5_rowOf_38 hl (by decide) rfl (fun ls hl => ?_)
          exact cut40 _ 0 (Nat.lt_succ_self _) (by omega) (by exact fun q => c_23 (by rw [q]; rfl)) (by omega) (by exact roH_0 (by omega) (fun q => c_23 (by rw [q]; rfl)) (by omega)) _ (lv_sub hl [1, 2, 3, 4, 5, 0] rfl)
        · refine zv_bipush hx hb dX5_rowOf_34 (by decide +kernel) ?_
          rw [← hQQ]
          exact zr_iret hx hb hr hlocks (congrArg zI (show (-9) = roS so le ri ti lo n mb.toNat st wl rr from by first | exact (roS_n (by omega) (Or.inl ((vl_nil hw).mp c_23))).symm | exact (roS_n (by omega) (Or.inr (by omega))).symm)) dX5_rowOf_36
    · exfalso; omega
theorem c_X5_rowOf (l : Launch) (dC : Nat → ClassId) (dI : Nat → Nat → Nat) (cI cB cZ : ClassId) (w0 : Nat) (x0 : Nat) (h0 : Nat) (g0 : Nat) (p0 : Nat) (q0 : Nat) (r0 : Nat) (fk : Int) (sk : Int) (t0 : Nat) (b1 : Nat) (b2 : Nat) (tr : Int64) (h1 : Nat) (h2 : Nat) (h3 : Nat) (h4 : Nat) (n : Int) (so : Int → Int) (le : Int → Int) (ri : Int → Int) (ti : Int → Int) (p1 : Nat) (p2 : Nat) (sp : Int → Int) (lo : Int) (li : Int) (kn : Int) (mb : Int) (st : Int → Int) (wl : List Int) (rr : Int) (hh : hOk n so le ri ti) (hn1 : 1 ≤ n) (hlo : -9 ≤ lo ∧ lo ≤ 8) (hmb : 0 ≤ mb ∧ mb ≤ 9) (hs : sOk n so ti st) (hw : wlOk wl) (hrr : 0 ≤ rr ∧ (rr + 1) * 10 ^ mb.toNat ≤ 1000000000) : MetR l yX5_rowOf wsX5_rowOf ({ frames := 11, cells := 0, slots := 0, locals := 313 }) (dC, dI) vwCl (zT cI cB cZ) zN [(w0, .inr (4, [.ref x0, .ref h0, .ref g0, .ref p0, .ref q0, .ref r0, .int (zI fk), .int (zI sk), .ref t0, .ref b1, .ref b2, .long tr])), (h0, .inr (0, [.int (zI n), .ref h1, .ref h2, .ref h3, .ref h4])), (h1, .inl (cI, 9, .inl (zA so))), (h2, .inl (cI, 9, .inl (zA le))), (h3, .inl (cI, 9, .inl (zA ri))), (h4, .inl (cI, 9, .inl (zA ti))), (p0, .inr (1, [.int (zI (pk sp)), .int (zI lo), .int (zI li), .int (zI kn), .ref p1, .ref p2]))] [.ref w0, .int (zI mb), .int (zI (pk st)), .int (zI (vl wl)), .int (zI rr)] (zI (roS so le ri ti lo n mb.toNat st wl rr)) := by
  have key : ∀ (d : Nat) (mb : Int) (st : Int → Int) (wl : List Int) (rr : Int), 0 ≤ mb ∧ mb ≤ 9 ∧ mb ≤ (d : Int) → sOk n so ti st → wlOk wl → 0 ≤ rr ∧ (rr + 1) * 10 ^ mb.toNat ≤ 1000000000 → MetR l yX5_rowOf wsX5_rowOf ({ frames := 2 + d, cells := 0, slots := 0, locals := 52 + 29 * d }) (dC, dI) vwCl (zT cI cB cZ) zN [(w0, .inr (4, [.ref x0, .ref h0, .ref g0, .ref p0, .ref q0, .ref r0, .int (zI fk), .int (zI sk), .ref t0, .ref b1, .ref b2, .long tr])), (h0, .inr (0, [.int (zI n), .ref h1, .ref h2, .ref h3, .ref h4])), (h1, .inl (cI, 9, .inl (zA so))), (h2, .inl (cI, 9, .inl (zA le))), (h3, .inl (cI, 9, .inl (zA ri))), (h4, .inl (cI, 9, .inl (zA ti))), (p0, .inr (1, [.int (zI (pk sp)), .int (zI lo), .int (zI li), .int (zI kn), .ref p1, .ref p2]))] [.ref w0, .int (zI mb), .int (zI (pk st)), .int (zI (vl wl)), .int (zI rr)] (zI (roS so le ri ti lo n mb.toNat st wl rr)) := by
    intro d
    induction d using Nat.strongRecOn with
    | ind d ih => intro mb st wl rr hmb hs hw hrr; exact c_X5_rowOf_d l dC dI cI cB cZ w0 x0 h0 g0 p0 q0 r0 fk sk t0 b1 b2 tr h1 h2 h3 h4 n so le ri ti p1 p2 sp lo li kn hh hn1 hlo trivial d (fun d' h mb st wl rr hmb hs hw hrr => ih d' h mb st wl rr hmb hs hw hrr) mb st wl rr hmb hs hw hrr
  exact key 9 mb st wl rr ⟨hmb.1, hmb.2, hmb.2⟩ hs hw hrr
