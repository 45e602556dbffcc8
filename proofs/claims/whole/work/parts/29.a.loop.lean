theorem zb_31 (z : Int) : ∃ y : Int, 0 ≤ y ∧ y ≤ 31 ∧ zI z &&& zI 31 = zI y := by
  have h : (zI z &&& zI 31).toBitVec.toNat = (zI z).toBitVec.toNat % 32 := by
    rw [Int32.toBitVec_and, BitVec.toNat_and, show (zI 31).toBitVec.toNat = 2 ^ 5 - 1 by decide +kernel, Nat.and_two_pow_sub_one_eq_mod]
  refine ⟨(((zI z).toBitVec.toNat % 32 : Nat) : Int), by omega, by omega, ?_⟩
  rw [zI_n]
  apply Int32.toBitVec_inj.1
  apply BitVec.eq_of_toNat_eq
  rw [h]
  show _ = (BitVec.ofNat 32 ((zI z).toBitVec.toNat % 32)).toNat
  rw [BitVec.toNat_ofNat]
  omega
set_option maxHeartbeats 8000000 in
set_option maxRecDepth 100000 in
theorem law_loop {p : Program} {e : Env} {s : State} {m : MethodId} {below : List Frame} {meth : Method} {c : Code} (l : Launch) {b L : Nat} {xs : Nat → Int32} (hL : L ≤ 2048) (C0 : lw_At p s m meth c b L xs) {dC : Nat → ClassId} {dI : Nat → Nat → Nat} {cI cB cZ : ClassId} (hK : va_K (dC, dI) vwCl (zT cI cB cZ) s) {adK adV : Nat → Nat} {kt : Nat} (hEX : zX adK adV kt (fun q : Nat => s.heap.size ≤ q) s) {w0 a0 : Nat} : ∀ (nM : Nat) (i : Int), 0 ≤ i → i ≤ 2052 → (((L : Int) + 4) - i).toNat < nM → ∀ (H : Heap) (locs : List Loc) (ls : Array Slot), LI dC dI cI cB cZ w0 a0 (fun q : Nat => s.heap.size ≤ q) H → va_S (fun q : Nat => s.heap.size ≤ q) s.heap H locs → lv_has ls 4 [(0, .ref b), (1, .ref w0), (2, .ref a0), (3, .int (zI i))] → W p l e room_1 s m #[Value.ref b] below meth c H locs 45 2352 (lw_Z below #[Value.ref b] s) (F0 m 18 ls []) := by
  obtain ⟨hx, hb, hr, hml, hown, hts0, hX, hbl, hlocks, hgv⟩ := id C0
  have hb : c.code = cL_law := hb
  have hbA : ¬ (fun q : Nat => s.heap.size ≤ q) b := Nat.not_le.mpr hbl
  intro nM
  induction nM with
  | zero => intro i _ _ hmu; exact absurd hmu (Nat.not_lt_zero _)
  | succ nM ih =>
    intro i hi0 hi1 hmu H locs ls hI hS hl
    refine lv_iload_n hx hb dL_law_18 rfl (lv_at hl 3 rfl) ?_
    refine lv_aload_n hx hb dL_law_19 rfl (lv_at hl 0 rfl) ?_
    refine va_slen hx hb hX hbl hbA hS dL_law_20 ?_
    rw [show Int32.ofNat L = zI (L : Int) from (zI_n L).symm]
    refine zv_iconst hx hb dL_law_21 ?_
    refine zv_isub hx hb dL_law_22 ?_
    refine zv_icmp_gt (tgt := 696) hx hb (by omega) (by omega) dL_law_23 (by decide) (fun c_23 => ?_) (fun c_23 => ?_)
    · refine lv_iconst (v := 1) hx hb dL_law_696 (by decide) ?_
      refine va_forget (fun q hq => hS.2.2 q hq) ?_
      refine W.widen (k := 600000) (n := 7302250) (by decide) (by decide) ?_
      exact lw_ret hx hb hr hlocks dL_law_697
    · have hi : 0 ≤ i ∧ i + 4 ≤ (L : Int) := by omega
      have nxt : ∀ (H : Heap) (locs : List Loc) (ls : Array Slot), LI dC dI cI cB cZ w0 a0 (fun q : Nat => s.heap.size ≤ q) H → va_S (fun q : Nat => s.heap.size ≤ q) s.heap H locs → lv_has ls 4 [(0, .ref b), (1, .ref w0), (2, .ref a0), (3, .int (zI i))] → W p l e room_1 s m #[Value.ref b] below meth c H locs 45 2352 (lw_Z below #[Value.ref b] s) (F0 m 690 ls []) := by
        intro H locs ls hI hS hl
        refine zv_iinc (k := 3) (a := i) (n := 4) (lv' := [(3, .int (zI (i + 4))), (0, .ref b), (1, .ref w0), (2, .ref a0)]) hx hb dL_law_690 hl rfl (by decide) rfl (fun ls hl => ?_)
        refine lv_goto (tgt := 18) hx hb dL_law_693 (by decide) ?_
        exact ih (i + 4) (by omega) (by omega) (by omega) H locs ls hI hS (lv_sub hl [1, 2, 3, 0] rfl)
      refine lv_aload_n hx hb dL_law_26 rfl (lv_at hl 0 rfl) ?_
      refine lv_iload_n hx hb dL_law_27 rfl (lv_at hl 3 rfl) ?_
      refine va_sld hx hb hX hbl hbA hS (zI_in ⟨by omega, by omega, by omega⟩) dL_law_28 ?_
      rw [show xs (zI i).toNatClampNeg = zI (sc xs i) from sc_at (by omega)]
      refine zv_bipush hx hb dL_law_29 (by decide +kernel) ?_
      obtain ⟨y, hy0, hy1, hy⟩ := zb_31 (sc xs i)
      refine zv_iand (z := y) hx hb hy dL_law_31 ?_
      rcases (show y = 0 ∨ y = 1 ∨ y = 2 ∨ y = 3 ∨ y = 4 ∨ y = 5 ∨ y = 6 ∨ y = 7 ∨ y = 8 ∨ y = 9 ∨ y = 10 ∨ y = 11 ∨ y = 12 ∨ y = 13 ∨ y = 14 ∨ y = 15 ∨ y = 16 ∨ y = 17 ∨ y = 18 ∨ y = 19 ∨ y = 20 ∨ y = 21 ∨ y = 22 ∨ (y < 0 ∨ 22 < y) by omega) with c_32 | c_32 | c_32 | c_32 | c_32 | c_32 | c_32 | c_32 | c_32 | c_32 | c_32 | c_32 | c_32 | c_32 | c_32 | c_32 | c_32 | c_32 | c_32 | c_32 | c_32 | c_32 | c_32 | c_32
      · refine zv_tableIn (k := 0) (tgt := 140) hx hb (by omega) c_32 (by omega) dL_law_32 rfl (by decide) ?_
        exact law_0 l hL C0 hK hEX rfl hi hI hS hl nxt
      · refine zv_tableIn (k := 1) (tgt := 203) hx hb (by omega) c_32 (by omega) dL_law_32 rfl (by decide) ?_
        exact law_1 l hL C0 hK hEX rfl hi hI hS hl nxt
      · refine zv_tableIn (k := 2) (tgt := 216) hx hb (by omega) c_32 (by omega) dL_law_32 rfl (by decide) ?_
        exact law_2 l hL C0 hK hEX rfl hi hI hS hl nxt
      · refine zv_tableIn (k := 3) (tgt := 229) hx hb (by omega) c_32 (by omega) dL_law_32 rfl (by decide) ?_
        exact law_3 l hL C0 hK hEX rfl hi hI hS hl nxt
      · refine zv_tableIn (k := 4) (tgt := 262) hx hb (by omega) c_32 (by omega) dL_law_32 rfl (by decide) ?_
        exact law_4 l hL C0 hK hEX rfl hi hI hS hl nxt
      · refine zv_tableIn (k := 5) (tgt := 285) hx hb (by omega) c_32 (by omega) dL_law_32 rfl (by decide) ?_
        exact law_5 l hL C0 hK hEX rfl hi hI hS hl nxt
      · refine zv_tableIn (k := 6) (tgt := 298) hx hb (by omega) c_32 (by omega) dL_law_32 rfl (by decide) ?_
        exact law_6 l hL C0 hK hEX rfl hi hI hS hl nxt
      · refine zv_tableIn (k := 7) (tgt := 321) hx hb (by omega) c_32 (by omega) dL_law_32 rfl (by decide) ?_
        exact law_7 l hL C0 hK hEX rfl hi hI hS hl nxt
      · refine zv_tableIn (k := 8) (tgt := 344) hx hb (by omega) c_32 (by omega) dL_law_32 rfl (by decide) ?_
        exact law_8 l hL C0 hK hEX rfl hi hI hS hl nxt
      · refine zv_tableIn (k := 9) (tgt := 377) hx hb (by omega) c_32 (by omega) dL_law_32 rfl (by decide) ?_
        exact law_9 l hL C0 hK hEX rfl hi hI hS hl nxt
      · refine zv_tableIn (k := 10) (tgt := 400) hx hb (by omega) c_32 (by omega) dL_law_32 rfl (by decide) ?_
        exact law_10 l hL C0 hK hEX rfl hi hI hS hl nxt
      · refine zv_tableIn (k := 11) (tgt := 423) hx hb (by omega) c_32 (by omega) dL_law_32 rfl (by decide) ?_
        exact law_11 l hL C0 hK hEX rfl hi hI hS hl nxt
      · refine zv_tableIn (k := 12) (tgt := 436) hx hb (by omega) c_32 (by omega) dL_law_32 rfl (by decide) ?_
        exact law_12 l hL C0 hK hEX rfl hi hI hS hl nxt
      · refine zv_tableIn (k := 13) (tgt := 469) hx hb (by omega) c_32 (by omega) dL_law_32 rfl (by decide) ?_
        exact law_13 l hL C0 hK hEX rfl hi hI hS hl nxt
      · refine zv_tableIn (k := 14) (tgt := 502) hx hb (by omega) c_32 (by omega) dL_law_32 rfl (by decide) ?_
        exact law_14 l hL C0 hK hEX rfl hi hI hS hl nxt
      · refine zv_tableIn (k := 15) (tgt := 515) hx hb (by omega) c_32 (by omega) dL_law_32 rfl (by decide) ?_
        exact law_15 l hL C0 hK hEX rfl hi hI hS hl nxt
      · refine zv_tableIn (k := 16) (tgt := 528) hx hb (by omega) c_32 (by omega) dL_law_32 rfl (by decide) ?_
        exact law_16 l hL C0 hK hEX rfl hi hI hS hl nxt
      · refine zv_tableIn (k := 17) (tgt := 551) hx hb (by omega) c_32 (by omega) dL_law_32 rfl (by decide) ?_
        exact law_17 l hL C0 hK hEX rfl hi hI hS hl nxt
      · refine zv_tableIn (k := 18) (tgt := 574) hx hb (by omega) c_32 (by omega) dL_law_32 rfl (by decide) ?_
        exact law_18 l hL C0 hK hEX rfl hi hI hS hl nxt
      · refine zv_tableIn (k := 19) (tgt := 607) hx hb (by omega) c_32 (by omega) dL_law_32 rfl (by decide) ?_
        exact law_19 l hL C0 hK hEX rfl hi hI hS hl nxt
      · refine zv_tableIn (k := 20) (tgt := 630) hx hb (by omega) c_32 (by omega) dL_law_32 rfl (by decide) ?_
        exact law_20 l hL C0 hK hEX rfl hi hI hS hl nxt
      · refine zv_tableIn (k := 21) (tgt := 653) hx hb (by omega) c_32 (by omega) dL_law_32 rfl (by decide) ?_
        exact law_21 l hL C0 hK hEX rfl hi hI hS hl nxt
      · refine zv_tableIn (k := 22) (tgt := 676) hx hb (by omega) c_32 (by omega) dL_law_32 rfl (by decide) ?_
        exact law_22 l hL C0 hK hEX rfl hi hI hS hl nxt
      · refine zv_tableOut (tgt := 690) hx hb (by omega) c_32 dL_law_32 (by decide) ?_
        exact nxt H locs ls hI hS hl
