set_option maxHeartbeats 8000000 in
set_option maxRecDepth 100000 in
theorem law_8 {p : Program} {e : Env} {s : State} {m : MethodId} {below : List Frame} {meth : Method} {c : Code} (l : Launch) {b L : Nat} {xs : Nat → Int32} (hL : L ≤ 2048) (C0 : lw_At p s m meth c b L xs) {dC : Nat → ClassId} {dI : Nat → Nat → Nat} {cI cB cZ : ClassId} (hK : va_K (dC, dI) vwCl (zT cI cB cZ) s) {adK adV : Nat → Nat} {kt : Nat} (hEX : zX adK adV kt (fun q : Nat => s.heap.size ≤ q) s) {QQ : State → Prop} {RM : Room} (hRM : room_1 = RM) {w0 a0 : Nat} {i : Int} (hi : 0 ≤ i ∧ i + 4 ≤ (L : Int)) {H : Heap} {locs : List Loc} {ls : Array Slot} (hI : LI dC dI cI cB cZ w0 a0 (fun q : Nat => s.heap.size ≤ q) H) (hS : va_S (fun q : Nat => s.heap.size ≤ q) s.heap H locs) (hl : lv_has ls 4 [(0, .ref b), (1, .ref w0), (2, .ref a0), (3, .int (zI i))]) (kk : ∀ (H : Heap) (locs : List Loc) (ls : Array Slot), LI dC dI cI cB cZ w0 a0 (fun q : Nat => s.heap.size ≤ q) H → va_S (fun q : Nat => s.heap.size ≤ q) s.heap H locs → lv_has ls 4 [(0, .ref b), (1, .ref w0), (2, .ref a0), (3, .int (zI i))] → W p l e RM s m #[Value.ref b] below meth c H locs 45 2352 QQ (F0 m 690 ls [])) : W p l e RM s m #[Value.ref b] below meth c H locs 45 2352 QQ (F0 m 344 ls []) := by
  obtain ⟨hx, hb, hr, hml, hown, hts0, hX, hbl, hlocks, hgv⟩ := C0
  have hb : c.code = cL_law := hb
  have hown : s.vm.findClass RL = some m.cls := hown
  have hts : ∀ w ∈ wsL_law, w.before #[Value.ref b] s = true := fun w h => hts0 w (wsL_law_in w h)
  have hE : zN s := hEX.1
  have hA : ∀ q : Nat, s.heap.size ≤ q → (fun q : Nat => s.heap.size ≤ q) q := fun _ h => h
  have hbA : ¬ (fun q : Nat => s.heap.size ≤ q) b := Nat.not_le.mpr hbl
  refine hI _ (fun x0 x1 h0 h1 h2 h3 h4 g0 g1 g2 g3 g4 p0 p1 p2 q0 q1 q2 r0 r1 r2 t0 t1 t2 b1 b2 a1 a2 a3 a4 a5 a6 a7 a8 a9 a10 a11 a12 a13 a14 a15 a16 a17 pl ft tk tS tv ng sgq loq liq knq sgr lor lir knr ty mat mst mso mva mfa mlo rm tm tmy so le ri ti sog leg rig tig ah alq ahq alr ahr rc gp tx pa ms ml mr mt nw ik sd ra bg to cd fi tsz tcm mg mtr hPc hPm hDD hV => ?_)
  obtain ⟨hty, htx2, hh, hag, hpi, htn, htz, htc, hik, hm0, hm1⟩ := id hV
  have hn := hh.1
  have hhm := hOk_of hh hag
  have hs := hpi.1
  have hsm := sOk_of hag hs
  have hlo := hpi.2.1
  have hli := hpi.2.2.1
  have hkn : 0 ≤ nw 20 ∧ nw 20 ≤ 20 := ⟨hpi.2.2.2.1.1, hpi.2.2.2.1.2.1⟩
  have hz5 := hpi.2.2.2.2.1
  have htx : ∀ k : Int, 0 ≤ k → k < ty → -128 ≤ tx k ∧ tx k ≤ 127 := fun k h0 h1 => htx2 k h0 (by omega)
  have hby : ∀ k : Int, 0 ≤ k → k < ty → 0 ≤ mB tx k ∧ mB tx k ≤ 255 := fun k h0 h1 => mB_r htx h0 h1
  have hr1 := sc_r xs (i + 1)
  have hr2 := sc_r xs (i + 2)
  have hr3 := sc_r xs (i + 3)
  refine lv_aload_n hx hb dL_law_344 rfl (lv_at hl 1 rfl) ?_
  refine lv_aload_n hx hb dL_law_345 rfl (lv_at hl 0 rfl) ?_
  refine lv_iload_n hx hb dL_law_346 rfl (lv_at hl 3 rfl) ?_
  refine zv_iconst hx hb dL_law_347 ?_
  refine zv_iadd hx hb dL_law_348 ?_
  refine va_sld hx hb hX hbl hbA hS (zI_in ⟨by omega, by omega, by omega⟩) dL_law_349 ?_
  rw [show xs (zI (i + 1)).toNatClampNeg = zI (sc xs (i + 1)) from sc_at (by omega)]
  refine lv_aload_n hx hb dL_law_350 rfl (lv_at hl 0 rfl) ?_
  refine lv_iload_n hx hb dL_law_351 rfl (lv_at hl 3 rfl) ?_
  refine zv_iconst hx hb dL_law_352 ?_
  refine zv_iadd hx hb dL_law_353 ?_
  refine va_sld hx hb hX hbl hbA hS (zI_in ⟨by omega, by omega, by omega⟩) dL_law_354 ?_
  rw [show xs (zI (i + 2)).toNatClampNeg = zI (sc xs (i + 2)) from sc_at (by omega)]
  refine zv_callRV (As := [.int (zI (sc xs (i + 1))), .int (zI (sc xs (i + 2)))]) (rest := []) ⟨hx, hb, hml, hown, hts⟩ (c_X5_brings l dC dI cI cB cZ w0 x0 h0 g0 p0 q0 r0 (ik 0) (ik 1) t0 b1 b2 mtr h1 h2 h3 h4 (pa 0) so le ri ti p1 p2 nw (nw 18) (nw 19) (nw 20) (fun k => nw (9 + k)) ah (sc xs (i + 1)) (sc xs (i + 2)) (by exact hh) (by exact hs) (by exact hlo) (by omega) (by omega)) (cwV 2 hts gL_law_X5_brings rfl rfl rfl (by decide +kernel) ⟨by rw [← hRM]; decide, by rw [← hRM]; decide⟩) hPc hK [0, 3, 4, 5, 6, 7, 13, 14, 15] rfl [0, 1, 2] rfl zN_bl (zN_go hE) (q0 := 0) rfl rfl rfl rfl hl.1 rfl (Nat.le_of_ble_eq_true rfl) dL_law_355 ⟨by rw [← hRM]; decide, by rw [← hRM]; decide⟩ ?_
  refine lv_aload_n hx hb dL_law_358 rfl (lv_at hl 2 rfl) ?_
  refine lv_aload_n hx hb dL_law_359 rfl (lv_at hl 0 rfl) ?_
  refine lv_iload_n hx hb dL_law_360 rfl (lv_at hl 3 rfl) ?_
  refine zv_iconst hx hb dL_law_361 ?_
  refine zv_iadd hx hb dL_law_362 ?_
  refine va_sld hx hb hX hbl hbA hS (zI_in ⟨by omega, by omega, by omega⟩) dL_law_363 ?_
  rw [show xs (zI (i + 1)).toNatClampNeg = zI (sc xs (i + 1)) from sc_at (by omega)]
  refine lv_aload_n hx hb dL_law_364 rfl (lv_at hl 0 rfl) ?_
  refine lv_iload_n hx hb dL_law_365 rfl (lv_at hl 3 rfl) ?_
  refine zv_iconst hx hb dL_law_366 ?_
  refine zv_iadd hx hb dL_law_367 ?_
  refine va_sld hx hb hX hbl hbA hS (zI_in ⟨by omega, by omega, by omega⟩) dL_law_368 ?_
  rw [show xs (zI (i + 2)).toNatClampNeg = zI (sc xs (i + 2)) from sc_at (by omega)]
  refine zv_callWm (As := [.int (zI (sc xs (i + 1))), .int (zI (sc xs (i + 2)))]) (rest := [.int (zI (q_brings so le ri ti (nw 18) (pa 0) nw (sc xs (i + 1)) (sc xs (i + 2))))]) ⟨hx, hb, hml, hown, hts⟩ (c_X6_brings l dC dI cI cB cZ a0 a1 a2 a3 a4 a5 a6 a7 a8 a9 a10 a11 a12 a13 a14 a15 a16 a17 mtr tx ty pa ms ml mr mt mat mst mso mva mfa nw ik sd mlo ra rm bg to tm cd fi tsz tcm tmy mg (sc xs (i + 1)) (sc xs (i + 2)) (by exact hhm) (by exact hsm) (by exact hlo) (by omega) (by omega)) (cwV 2 hts gL_law_X6_brings rfl rfl rfl (by decide +kernel) ⟨by rw [← hRM]; decide, by rw [← hRM]; decide⟩) hPc hPm hDD rfl hS hA hK zN_bl (zN_go hE) (q0 := 0) rfl rfl rfl rfl hl.1 rfl (Nat.le_of_ble_eq_true rfl) dL_law_369 ⟨by rw [← hRM]; decide, by rw [← hRM]; decide⟩ (fun u H locs hpo hPc hPm hS => ?_)
  obtain ⟨sd2_369, mlo2_369, rm2_369, ra2_369, bg2_369⟩ := u
  have hPc : va_P (dC, dI) vwCl [(w0, .inr (4, [.ref x0, .ref h0, .ref g0, .ref p0, .ref q0, .ref r0, .int (zI (ik 0)), .int (zI (ik 1)), .ref t0, .ref b1, .ref b2, .long mtr])), (x0, .inr (2, [.int (zI ty), .ref x1, .int (zI pl), .int (zI ft), .int (zI tk), .int (zI tS), .int (zI tv)])), (x1, .inl (cI, 200, .inl (zA (mB tx)))), (h0, .inr (0, [.int (zI (pa 0)), .ref h1, .ref h2, .ref h3, .ref h4])), (h1, .inl (cI, 9, .inl (zA so))), (h2, .inl (cI, 9, .inl (zA le))), (h3, .inl (cI, 9, .inl (zA ri))), (h4, .inl (cI, 9, .inl (zA ti))), (g0, .inr (0, [.int (zI ng), .ref g1, .ref g2, .ref g3, .ref g4])), (g1, .inl (cI, 9, .inl (zA sog))), (g2, .inl (cI, 9, .inl (zA leg))), (g3, .inl (cI, 9, .inl (zA rig))), (g4, .inl (cI, 9, .inl (zA tig))), (p0, .inr (1, [.int (zI (pk nw)), .int (zI (nw 18)), .int (zI (nw 19)), .int (zI (nw 20)), .ref p1, .ref p2])), (p1, .inl (cI, 9, .inl (zA ((fun k => nw (9 + k)))))), (p2, .inl (cI, 20, .inl (zA ah))), (q0, .inr (1, [.int (zI sgq), .int (zI loq), .int (zI liq), .int (zI knq), .ref q1, .ref q2])), (q1, .inl (cI, 9, .inl (zA alq))), (q2, .inl (cI, 20, .inl (zA ahq))), (r0, .inr (1, [.int (zI sgr), .int (zI lor), .int (zI lir), .int (zI knr), .ref r1, .ref r2])), (r1, .inl (cI, 9, .inl (zA alr))), (r2, .inl (cI, 20, .inl (zA ahr))), (t0, .inr (3, [.int (zI tmy), .ref t1, .ref t2])), (t1, .inl (cI, 9, .inl (zA tsz))), (t2, .inl (cI, 9, .inl (zA tcm))), (b1, .inl (cI, 200, .inl (zA rc))), (b2, .inl (cI, 10, .inl (zA gp)))] H := hPc
  have hPm : va_P (dC, dI) vwCl [(a0, .inr (5, [.long mtr, .ref a1, .int (zI ty), .ref a2, .ref a3, .ref a4, .ref a5, .ref a6, .int (zI mat), .int (zI mst), .int (zI mso), .int (zI mva), .int (zI mfa), .ref a7, .ref a8, .ref a9, .int (zI mlo2_369), .ref a10, .int (zI rm2_369), .ref a11, .ref a12, .int (zI tm), .ref a13, .ref a14, .ref a15, .ref a16, .int (zI tmy), .ref a17])), (a1, .inl (cB, 200, .inl (zA tx))), (a2, .inl (cI, 2, .inl (zA pa))), (a3, .inl (cI, 18, .inl (zA ms))), (a4, .inl (cI, 18, .inl (zA ml))), (a5, .inl (cI, 18, .inl (zA mr))), (a6, .inl (cI, 18, .inl (zA mt))), (a7, .inl (cI, 1143, .inl (zA nw))), (a8, .inl (cZ, 2, .inl (zA ik))), (a9, .inl (cI, 9, .inl (zA sd2_369))), (a10, .inl (cI, 9, .inl (zA ra2_369))), (a11, .inl (cI, 9, .inl (zA bg2_369))), (a12, .inl (cI, 4, .inl (zA to))), (a13, .inl (cI, 200, .inl (zA cd))), (a14, .inl (cI, 9, .inl (zA fi))), (a15, .inl (cI, 9, .inl (zA tsz))), (a16, .inl (cI, 9, .inl (zA tcm))), (a17, .inl (cI, 10, .inl (zA mg)))] H := hPm
  refine W.eq (g2 := F0 m 372 ls [.int (zI (q_brings ms ml mr mt (nw 18) (pa 0) nw (sc xs (i + 1)) (sc xs (i + 2)))), .int (zI (q_brings so le ri ti (nw 18) (pa 0) nw (sc xs (i + 1)) (sc xs (i + 2))))]) rfl ?_
  refine lv_icmp_eq (tgt := 690) hx hb dL_law_372 (by decide) (fun _ => ?_) (fun q => absurd (congrArg zI (show (q_brings so le ri ti (nw 18) (pa 0) nw (sc xs (i + 1)) (sc xs (i + 2))) = (q_brings ms ml mr mt (nw 18) (pa 0) nw (sc xs (i + 1)) (sc xs (i + 2))) from q_brings_h hh hag)) q)
  exact kk H locs ls (fun C k9 => k9 x0 x1 h0 h1 h2 h3 h4 g0 g1 g2 g3 g4 p0 p1 p2 q0 q1 q2 r0 r1 r2 t0 t1 t2 b1 b2 a1 a2 a3 a4 a5 a6 a7 a8 a9 a10 a11 a12 a13 a14 a15 a16 a17 pl ft tk tS tv ng sgq loq liq knq sgr lor lir knr ty mat mst mso mva mfa mlo2_369 rm2_369 tm tmy so le ri ti sog leg rig tig ah alq ahq alr ahr rc gp tx pa ms ml mr mt nw ik sd2_369 ra2_369 bg2_369 to cd fi tsz tcm mg mtr hPc hPm (va_Dadr (ws := [(w0, .inr (4, [.ref x0, .ref h0, .ref g0, .ref p0, .ref q0, .ref r0, .int (zI (ik 0)), .int (zI (ik 1)), .ref t0, .ref b1, .ref b2, .long mtr])), (x0, .inr (2, [.int (zI ty), .ref x1, .int (zI pl), .int (zI ft), .int (zI tk), .int (zI tS), .int (zI tv)])), (x1, .inl (cI, 200, .inl (zA (mB tx)))), (h0, .inr (0, [.int (zI (pa 0)), .ref h1, .ref h2, .ref h3, .ref h4])), (h1, .inl (cI, 9, .inl (zA so))), (h2, .inl (cI, 9, .inl (zA le))), (h3, .inl (cI, 9, .inl (zA ri))), (h4, .inl (cI, 9, .inl (zA ti))), (g0, .inr (0, [.int (zI ng), .ref g1, .ref g2, .ref g3, .ref g4])), (g1, .inl (cI, 9, .inl (zA sog))), (g2, .inl (cI, 9, .inl (zA leg))), (g3, .inl (cI, 9, .inl (zA rig))), (g4, .inl (cI, 9, .inl (zA tig))), (p0, .inr (1, [.int (zI (pk nw)), .int (zI (nw 18)), .int (zI (nw 19)), .int (zI (nw 20)), .ref p1, .ref p2])), (p1, .inl (cI, 9, .inl (zA ((fun k => nw (9 + k)))))), (p2, .inl (cI, 20, .inl (zA ah))), (q0, .inr (1, [.int (zI sgq), .int (zI loq), .int (zI liq), .int (zI knq), .ref q1, .ref q2])), (q1, .inl (cI, 9, .inl (zA alq))), (q2, .inl (cI, 20, .inl (zA ahq))), (r0, .inr (1, [.int (zI sgr), .int (zI lor), .int (zI lir), .int (zI knr), .ref r1, .ref r2])), (r1, .inl (cI, 9, .inl (zA alr))), (r2, .inl (cI, 20, .inl (zA ahr))), (t0, .inr (3, [.int (zI tmy), .ref t1, .ref t2])), (t1, .inl (cI, 9, .inl (zA tsz))), (t2, .inl (cI, 9, .inl (zA tcm))), (b1, .inl (cI, 200, .inl (zA rc))), (b2, .inl (cI, 10, .inl (zA gp))), (a0, .inr (5, [.long mtr, .ref a1, .int (zI ty), .ref a2, .ref a3, .ref a4, .ref a5, .ref a6, .int (zI mat), .int (zI mst), .int (zI mso), .int (zI mva), .int (zI mfa), .ref a7, .ref a8, .ref a9, .int (zI mlo), .ref a10, .int (zI rm), .ref a11, .ref a12, .int (zI tm), .ref a13, .ref a14, .ref a15, .ref a16, .int (zI tmy), .ref a17])), (a1, .inl (cB, 200, .inl (zA tx))), (a2, .inl (cI, 2, .inl (zA pa))), (a3, .inl (cI, 18, .inl (zA ms))), (a4, .inl (cI, 18, .inl (zA ml))), (a5, .inl (cI, 18, .inl (zA mr))), (a6, .inl (cI, 18, .inl (zA mt))), (a7, .inl (cI, 1143, .inl (zA nw))), (a8, .inl (cZ, 2, .inl (zA ik))), (a9, .inl (cI, 9, .inl (zA sd))), (a10, .inl (cI, 9, .inl (zA ra))), (a11, .inl (cI, 9, .inl (zA bg))), (a12, .inl (cI, 4, .inl (zA to))), (a13, .inl (cI, 200, .inl (zA cd))), (a14, .inl (cI, 9, .inl (zA fi))), (a15, .inl (cI, 9, .inl (zA tsz))), (a16, .inl (cI, 9, .inl (zA tcm))), (a17, .inl (cI, 10, .inl (zA mg)))]) rfl hDD) hV) hS (lv_sub hl [0, 1, 2, 3] rfl)
