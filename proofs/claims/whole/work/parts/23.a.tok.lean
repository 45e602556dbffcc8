/-! tokens -/
theorem sgA_r {ln : Int} {bys : Int → Int} (h : ∀ k : Int, 0 ≤ k → k < ln → 0 ≤ bys k ∧ bys k ≤ 255) (k : Int) : 0 ≤ sgA ln bys k ∧ sgA ln bys k ≤ 255 := by
  unfold sgA
  split
  · rename_i z; exact h k z.1 z.2
  · omega
abbrev tokW (ln : Int) (bys : Int → Int) (p e : Int) (i : Nat) : Prop := zL i = e - p ∧ ∀ j : Nat, j < zLen.getD i 0 → sgA ln bys (p + (j : Int)) = zCh i (j : Int)
def wdK (ln : Int) (bys : Int → Int) (p e : Int) : Int := if tokW ln bys p e 0 then 0 else if tokW ln bys p e 1 then 1 else if tokW ln bys p e 2 then 2 else if tokW ln bys p e 3 then 3 else 7
theorem wdK_r (ln : Int) (bys : Int → Int) (p e : Int) : (0 ≤ wdK ln bys p e ∧ wdK ln bys p e ≤ 3) ∨ wdK ln bys p e = 7 := by
  unfold wdK
  repeat' split
  all_goals omega
def tkS (ln : Int) (bys : Int → Int) (p : Int) : Int := skE isBl ln bys p
theorem tkS_r {ln : Int} {bys : Int → Int} {p : Int} (h : p ≤ ln) : p ≤ tkS ln bys p ∧ tkS ln bys p ≤ ln := skE_r h
/-- of the token that begins at q: its kind (0 .. 3 a word, 4 the end, 5 a number, 6 a stop, 7 none), its end, its value -/
def kK (ln : Int) (bys : Int → Int) (q : Int) : Int := if ln ≤ q then 4 else if isLe (bys q) = true then wdK ln bys q (skE isLe ln bys q) else if isDi (bys q) = true then (if nmOk ln bys q then 5 else 7) else if bys q = 59 then 6 else 7
def kE (ln : Int) (bys : Int → Int) (q : Int) : Int := if ln ≤ q then q else if isLe (bys q) = true then skE isLe ln bys q else if isDi (bys q) = true then skE isDi ln bys q else q + 1
def kV (ln : Int) (bys : Int → Int) (q : Int) : Int := if ln ≤ q then 0 else if isLe (bys q) = true then 0 else if isDi (bys q) = true then nmV ln bys q else 0
def ctk (k : Int) : Int := if k ≤ 3 then 1 else if k = 4 then 0 else if k = 5 then 2 else if k = 6 then 3 else 4
def cVl (ln : Int) (bys : Int → Int) (q : Int) : Int := if kK ln bys q ≤ 3 then kK ln bys q else kV ln bys q
theorem kK_r (ln : Int) (bys : Int → Int) (q : Int) : 0 ≤ kK ln bys q ∧ kK ln bys q ≤ 7 := by
  have h := wdK_r ln bys q (skE isLe ln bys q)
  unfold kK
  repeat' split
  all_goals omega
theorem ctk_r {k : Int} (h : 0 ≤ k ∧ k ≤ 7) : 0 ≤ ctk k ∧ ctk k ≤ 4 := by
  unfold ctk
  repeat' split
  all_goals omega
theorem ctk_2 {k : Int} (h : 0 ≤ k ∧ k ≤ 7) (h2 : ctk k = 2) : k = 5 := by
  unfold ctk at h2
  repeat' split at h2
  all_goals omega
theorem ctk_3 {k : Int} (h : 0 ≤ k ∧ k ≤ 7) (h2 : ctk k = 3) : k = 6 := by
  unfold ctk at h2
  repeat' split at h2
  all_goals omega
theorem le_di {v : Int} (h : isLe v = true) : isDi v = false := by
  have h1 := of_decide_eq_true h
  exact decide_eq_false (by omega)
theorem st_le {v : Int} (h : v = 59) : ¬ isLe v = true := fun z => by have := of_decide_eq_true z; omega
theorem st_di {v : Int} (h : v = 59) : ¬ isDi v = true := fun z => by have := of_decide_eq_true z; omega
theorem kK_w {ln : Int} {bys : Int → Int} {q : Int} (h : q < ln) (h1 : isLe (bys q) = true) : kK ln bys q = wdK ln bys q (skE isLe ln bys q) := by
  unfold kK
  rw [if_neg (by omega), if_pos h1]
theorem kK_d {ln : Int} {bys : Int → Int} {q : Int} (h : q < ln) (h1 : ¬ isLe (bys q) = true) (h2 : isDi (bys q) = true) : kK ln bys q = if nmOk ln bys q then 5 else 7 := by
  unfold kK
  rw [if_neg (by omega), if_neg h1, if_pos h2]
theorem kK_s {ln : Int} {bys : Int → Int} {q : Int} (h : q < ln) (h1 : bys q = 59) : kK ln bys q = 6 := by
  unfold kK
  rw [if_neg (by omega), if_neg (st_le h1), if_neg (st_di h1), if_pos h1]
theorem kK_o {ln : Int} {bys : Int → Int} {q : Int} (h : q < ln) (h1 : ¬ isLe (bys q) = true) (h2 : ¬ isDi (bys q) = true) (h3 : bys q ≠ 59) : kK ln bys q = 7 := by
  unfold kK
  rw [if_neg (by omega), if_neg h1, if_neg h2, if_neg h3]
theorem kE_w {ln : Int} {bys : Int → Int} {q : Int} (h : q < ln) (h1 : isLe (bys q) = true) : kE ln bys q = skE isLe ln bys q := by
  unfold kE
  rw [if_neg (by omega), if_pos h1]
theorem kE_d {ln : Int} {bys : Int → Int} {q : Int} (h : q < ln) (h1 : ¬ isLe (bys q) = true) (h2 : isDi (bys q) = true) : kE ln bys q = skE isDi ln bys q := by
  unfold kE
  rw [if_neg (by omega), if_neg h1, if_pos h2]
theorem kE_e {ln : Int} {bys : Int → Int} {q : Int} (h : ln ≤ q) : q = kE ln bys q ∧ 0 = cVl ln bys q := by
  unfold cVl kE kK kV
  rw [if_pos h, if_pos h, if_pos h, if_neg (by omega)]
  exact ⟨rfl, rfl⟩
theorem kE_s {ln : Int} {bys : Int → Int} {q : Int} (h : q < ln) (h1 : bys q = 59) : q + 1 = kE ln bys q ∧ 0 = cVl ln bys q := by
  unfold cVl
  rw [kK_s h h1, if_neg (by omega)]
  unfold kE kV
  rw [if_neg (by omega), if_neg (st_le h1), if_neg (st_di h1), if_neg (by omega), if_neg (st_le h1), if_neg (st_di h1)]
  exact ⟨rfl, rfl⟩
theorem cVl_w {ln : Int} {bys : Int → Int} {q : Int} (h : q < ln) (h1 : isLe (bys q) = true) (hw : (0 ≤ wdK ln bys q (skE isLe ln bys q) ∧ wdK ln bys q (skE isLe ln bys q) ≤ 3) ∨ wdK ln bys q (skE isLe ln bys q) = 7) (h7 : wdK ln bys q (skE isLe ln bys q) ≠ 7) : cVl ln bys q = wdK ln bys q (skE isLe ln bys q) := by
  unfold cVl
  rw [kK_w h h1, if_pos (by omega)]
theorem cVl_d {ln : Int} {bys : Int → Int} {q : Int} (h : q < ln) (h1 : ¬ isLe (bys q) = true) (h2 : isDi (bys q) = true) : cVl ln bys q = nmV ln bys q := by
  unfold cVl
  rw [kK_d h h1 h2, if_neg (by split <;> omega)]
  unfold kV
  rw [if_neg (by omega), if_neg h1, if_pos h2]
theorem cVl_5 {ln : Int} {bys : Int → Int} {q : Int} (h : kK ln bys q = 5) : cVl ln bys q = kV ln bys q := if_neg (by omega)
theorem kV_b {ln : Int} {bys : Int → Int} {q : Int} (h : ∀ k : Int, 0 ≤ k → k < ln → 0 ≤ bys k ∧ bys k ≤ 255) (h0 : 0 ≤ q) (h1 : q ≤ ln) : -1000 ≤ kV ln bys q ∧ kV ln bys q ≤ 3000 := by
  unfold kV
  split
  · omega
  · split
    · omega
    · split
      · have hr := skE_r (P := isDi) (ln := ln) (bys := bys) (p := q) h1
        have hq := h q h0 (by omega)
        unfold nmV nmA
        split
        · omega
        · split
          · omega
          · have := h (q + 1) (by omega) (by omega)
            omega
      · omega
/-- a number that lies between lb and ub stands at p; a stop; the fault that stands already stays -/
abbrev okN (ln : Int) (bys : Int → Int) (p lb ub : Int) : Prop := kK ln bys (tkS ln bys p) = 5 ∧ lb ≤ kV ln bys (tkS ln bys p) ∧ kV ln bys (tkS ln bys p) ≤ ub
def tN (ln : Int) (bys : Int → Int) (f p lb ub : Int) : Int × Int × Int := if f = -1 then (if okN ln bys p lb ub then (-1, kE ln bys (tkS ln bys p), kV ln bys (tkS ln bys p)) else (tkS ln bys p, p, 0)) else (f, p, 0)
def tEn (ln : Int) (bys : Int → Int) (f p : Int) : Int × Int := if f = -1 then (if kK ln bys (tkS ln bys p) = 6 then (-1, kE ln bys (tkS ln bys p)) else (tkS ln bys p, p)) else (f, p)
theorem tN_f {ln : Int} {bys : Int → Int} {f p lb ub : Int} (h : f ≠ -1) : tN ln bys f p lb ub = (f, p, 0) := if_neg h
theorem tN_y {ln : Int} {bys : Int → Int} {f p lb ub : Int} (h : f = -1) (h2 : okN ln bys p lb ub) : tN ln bys f p lb ub = (-1, kE ln bys (tkS ln bys p), kV ln bys (tkS ln bys p)) := by
  unfold tN
  rw [if_pos h, if_pos h2]
theorem tN_n {ln : Int} {bys : Int → Int} {f p lb ub : Int} (h : f = -1) (h2 : ¬ okN ln bys p lb ub) : tN ln bys f p lb ub = (tkS ln bys p, p, 0) := by
  unfold tN
  rw [if_pos h, if_neg h2]
theorem tEn_f {ln : Int} {bys : Int → Int} {f p : Int} (h : f ≠ -1) : tEn ln bys f p = (f, p) := if_neg h
theorem tEn_y {ln : Int} {bys : Int → Int} {f p : Int} (h : f = -1) (h2 : kK ln bys (tkS ln bys p) = 6) : tEn ln bys f p = (-1, kE ln bys (tkS ln bys p)) := by
  unfold tEn
  rw [if_pos h, if_pos h2]
theorem tEn_n {ln : Int} {bys : Int → Int} {f p : Int} (h : f = -1) (h2 : ¬ kK ln bys (tkS ln bys p) = 6) : tEn ln bys f p = (tkS ln bys p, p) := by
  unfold tEn
  rw [if_pos h, if_neg h2]
set_option maxHeartbeats 4000000 in
set_option maxRecDepth 100000 in
theorem c_X3_tokenIs (l : Launch) (dC : Nat → ClassId) (dI : Nat → Nat → Nat) (cI cB cZ : ClassId) (x0 : Nat) (x1 : Nat) (ln : Int) (pl : Int) (ft : Int) (tk : Int) (tS : Int) (tv : Int) (bys : Int → Int) (adK : Nat → Nat) (adV : Nat → Nat) (kt : Nat) (wi : Nat) (hln : 0 ≤ ln ∧ ln ≤ 200) (hby : ∀ k : Int, 0 ≤ k → k < ln → 0 ≤ bys k ∧ bys k ≤ 255) (hpl : 0 ≤ tS ∧ tS ≤ pl ∧ pl ≤ ln) (hwi : wi < 4) : MetR l yX3_tokenIs wsX3_tokenIs ({ frames := 4, cells := 0, slots := 0, locals := 85 }) (dC, dI) vwCl (zT cI cB cZ) (zX adK adV kt (fun _ => False)) [(x0, .inr (2, [.int (zI ln), .ref x1, .int (zI pl), .int (zI ft), .int (zI tk), .int (zI tS), .int (zI tv)])), (x1, .inl (cI, 200, .inl (zA bys)))] [.ref x0, .ref (adK wi)] (zI (bZ (tokW ln bys tS pl wi))) := by
  refine MetR.intro (cc := cX3_tokenIs) (maxL := 3) (ret := (some .boolean)) (by decide) rfl (Nat.le_of_ble_eq_true rfl) ?_
  intro p e s m args below meth c hx hb hr hlocks hml hts hown hP hK hE ls hl
  have hown : s.vm.findClass RX3 = some m.cls := hown
  have hEX := hE
  have hE : zN s := hEX.1
  have hS : va_S (fun _ => False) s.heap s.heap [] := va_S.rf
  have hl : lv_has ls 3 [(0, .ref x0), (1, .ref (adK wi))] := hl
  generalize hRM : ({ frames := 4, cells := 0, slots := 0, locals := 85 } : Room) = RM
  generalize hQQ : MQ below (vp_Si (fun r => r = zI (bZ (tokW ln bys tS pl wi)))) args s 0 0 (fun _ => False) = QQ
  have in_X3 : ∀ w ∈ wsX30, w ∈ wsX3_tokenIs := by decide +kernel
  have w_0 := hts (.fieldLink RX3 40 "WallMarbles$Text" "tokenStart" "I") (by decide +kernel)
  have w_1 := hts (.fieldLink RX3 24 "WallMarbles$Text" "place" "I") (by decide +kernel)
  have h7 := zL_b hwi
  have cut20 : ∀ (nM : Nat) (j : Int),  ((zL wi - j).toNat) < nM → (0 ≤ j ∧ j ≤ zL wi) → (zL wi = pl - tS) → (∀ k : Int, 0 ≤ k → k < j → sgA ln bys (tS + k) = zCh wi k) → ∀ ls : Array Slot, lv_has ls 3 [(0, .ref x0), (1, .ref (adK wi)), (2, .int (zI j))] → W p l e RM s m args below meth c s.heap [] 0 0 QQ (F0 m 20 ls []) := by
    intro nM
    induction nM with
    | zero => intro j hmu; exact absurd hmu (Nat.not_lt_zero _)
    | succ nM ih20 =>
      intro j hmu hj hlen hc ls hl
      refine lv_iload_n hx hb dX3_tokenIs_20 rfl (lv_at hl 2 rfl) ?_
      refine lv_aload_n hx hb dX3_tokenIs_21 rfl (lv_at hl 1 rfl) ?_
      refine zv_callRK (As := []) (rest := [.int (zI j)]) ⟨hx, hb, hml, hown, hts⟩ (c_J0_length_8abf5 l dC dI cI cB cZ adK adV kt wi (by omega)) (cwV 0 hts gX3_tokenIs_J0_length_8abf5 rfl rfl rfl (by decide +kernel) ⟨by rw [← hRM]; first | decide | (dsimp only; omega), by rw [← hRM]; first | decide | (dsimp only; omega)⟩) hP hK [] rfl [0, 1, 2] rfl (zX_bl _) (zX_go hEX hS _ (fun _ h => False.elim h)) (vk_recv hEX.2.1 (by omega) hS) rfl hl.1 rfl (Nat.le_of_ble_eq_true rfl) dX3_tokenIs_22 ⟨Nat.zero_le _, Nat.zero_le _⟩ ?_
      refine zv_icmp_ge (tgt := 54) hx hb (by omega) (by omega) dX3_tokenIs_25 (by decide) (fun c_25 => ?_) (fun c_25 => ?_)
      · refine zv_iconst hx hb dX3_tokenIs_54 ?_
        rw [← hQQ]
        exact zr_zret hx hb hr hlocks (by first | exact z_nar_bool | rfl) (congrArg zI (show 1 = bZ (tokW ln bys tS pl wi) from by exact (bZ_t ⟨hlen, fun k hk => hc (k : Int) (by omega) (by unfold zL at *; omega)⟩).symm)) dX3_tokenIs_55
      · have hcb := zCh_b hwi (k := j) (by omega) (by omega)
        have hsr := sgA_r hby (tS + j)
        refine lv_aload_n hx hb dX3_tokenIs_28 rfl (lv_at hl 0 rfl) ?_
        refine lv_aload_n hx hb dX3_tokenIs_29 rfl (lv_at hl 0 rfl) ?_
        refine va_get (D := (dC, dI)) (ci := 2) (v := .int (zI tS)) (C := RX3) (T := TX3) (N := 7) hx hb hts in_X3 hown hK hP 0 rfl rfl 5 (by decide) w_0 (fun _ h9 => h9) rfl dX3_tokenIs_30 ?_
        refine lv_iload_n hx hb dX3_tokenIs_33 rfl (lv_at hl 2 rfl) ?_
        refine zv_iadd hx hb dX3_tokenIs_34 ?_
        refine zv_callRV (As := [.int (zI (tS + j))]) (rest := []) ⟨hx, hb, hml, hown, hts⟩ (c_X3_signAt l dC dI cI cB cZ x0 x1 ln pl ft tk tS tv bys (tS + j) (by omega) (by omega)) (cwV 1 hts gX3_tokenIs_X3_signAt rfl rfl rfl (by decide +kernel) ⟨by rw [← hRM]; first | decide | (dsimp only; omega), by rw [← hRM]; first | decide | (dsimp only; omega)⟩) hP hK [0, 1] rfl [0, 1, 2] rfl zN_bl (zN_go hE) (q0 := 0) rfl rfl rfl rfl hl.1 rfl (Nat.le_of_ble_eq_true rfl) dX3_tokenIs_35 ⟨Nat.zero_le _, Nat.zero_le _⟩ ?_
        refine lv_aload_n hx hb dX3_tokenIs_38 rfl (lv_at hl 1 rfl) ?_
        refine lv_iload_n hx hb dX3_tokenIs_39 rfl (lv_at hl 2 rfl) ?_
        refine zv_callRK (As := [.int (zI j)]) (rest := [.int (zI (sgA ln bys (tS + j)))]) ⟨hx, hb, hml, hown, hts⟩ (c_J0_charAt_5068e l dC dI cI cB cZ adK adV kt wi j (by omega) (by omega)) (cwV 1 hts gX3_tokenIs_J0_charAt_5068e rfl rfl rfl (by decide +kernel) ⟨by rw [← hRM]; first | decide | (dsimp only; omega), by rw [← hRM]; first | decide | (dsimp only; omega)⟩) hP hK [] rfl [0, 1, 2] rfl (zX_bl _) (zX_go hEX hS _ (fun _ h => False.elim h)) (vk_recv hEX.2.1 (by omega) hS) rfl hl.1 rfl (Nat.le_of_ble_eq_true rfl) dX3_tokenIs_40 ⟨Nat.zero_le _, Nat.zero_le _⟩ ?_
        refine zv_icmp_eq (tgt := 48) hx hb (by omega) (by omega) dX3_tokenIs_43 (by decide) (fun c_43 => ?_) (fun c_43 => ?_)
        · refine zv_iinc (k := 2) (a := j) (n := 1) (lv' := [(2, .int (zI (j + 1))), (0, .ref x0), (1, .ref (adK wi))]) hx hb dX3_tokenIs_48 hl rfl (by decide) rfl (fun ls hl => ?_)
          refine lv_goto (tgt := 20) hx hb dX3_tokenIs_51 (by decide) ?_
          exact ih20 (j + 1) (by omega) (by omega) (by exact hlen) (by intro k h0 h1; by_cases z : k = j; (rw [z]; exact c_43); exact hc k h0 (by omega)) _ (lv_sub hl [1, 2, 0] rfl)
        · refine zv_iconst hx hb dX3_tokenIs_46 ?_
          rw [← hQQ]
          exact zr_zret hx hb hr hlocks (by first | exact z_nar_bool | rfl) (congrArg zI (show 0 = bZ (tokW ln bys tS pl wi) from by exact (bZ_f (fun z => c_43 (by have := z.2 j.toNat (by unfold zL at *; omega); rw [Int.toNat_of_nonneg (by omega)] at this; exact this))).symm)) dX3_tokenIs_47
  refine lv_aload_n hx hb dX3_tokenIs_0 rfl (lv_at hl 1 rfl) ?_
  refine zv_callRK (As := []) (rest := []) ⟨hx, hb, hml, hown, hts⟩ (c_J0_length_8abf5 l dC dI cI cB cZ adK adV kt wi (by omega)) (cwV 0 hts gX3_tokenIs_J0_length_8abf5 rfl rfl rfl (by decide +kernel) ⟨by rw [← hRM]; first | decide | (dsimp only; omega), by rw [← hRM]; first | decide | (dsimp only; omega)⟩) hP hK [] rfl [0, 1, 2] rfl (zX_bl _) (zX_go hEX hS _ (fun _ h => False.elim h)) (vk_recv hEX.2.1 (by omega) hS) rfl hl.1 rfl (Nat.le_of_ble_eq_true rfl) dX3_tokenIs_1 ⟨Nat.zero_le _, Nat.zero_le _⟩ ?_
  refine lv_aload_n hx hb dX3_tokenIs_4 rfl (lv_at hl 0 rfl) ?_
  refine va_get (D := (dC, dI)) (ci := 2) (v := .int (zI pl)) (C := RX3) (T := TX3) (N := 7) hx hb hts in_X3 hown hK hP 0 rfl rfl 2 (by decide) w_1 (fun _ h9 => h9) rfl dX3_tokenIs_5 ?_
  refine lv_aload_n hx hb dX3_tokenIs_8 rfl (lv_at hl 0 rfl) ?_
  refine va_get (D := (dC, dI)) (ci := 2) (v := .int (zI tS)) (C := RX3) (T := TX3) (N := 7) hx hb hts in_X3 hown hK hP 0 rfl rfl 5 (by decide) w_0 (fun _ h9 => h9) rfl dX3_tokenIs_9 ?_
  refine zv_isub hx hb dX3_tokenIs_12 ?_
  refine zv_icmp_eq (tgt := 18) hx hb (by omega) (by omega) dX3_tokenIs_13 (by decide) (fun c_13 => ?_) (fun c_13 => ?_)
  · refine zv_iconst hx hb dX3_tokenIs_18 ?_
    refine lv_istore_n (lv' := [(2, .int (zI 0)), (0, .ref x0), (1, .ref (adK wi))]) hx hb dX3_tokenIs_19 rfl hl (by decide) rfl (fun ls hl => ?_)
    exact cut20 _ 0 (Nat.lt_succ_self _) (by omega) (by exact c_13) (by intro k h0 h1; omega) _ (lv_sub hl [1, 2, 0] rfl)
  · refine zv_iconst hx hb dX3_tokenIs_16 ?_
    rw [← hQQ]
    exact zr_zret hx hb hr hlocks (by first | exact z_nar_bool | rfl) (congrArg zI (show 0 = bZ (tokW ln bys tS pl wi) from by exact (bZ_f (fun z => c_13 z.1)).symm)) dX3_tokenIs_17
set_option maxHeartbeats 4000000 in
set_option maxRecDepth 100000 in
theorem c_X3_readWord (l : Launch) (dC : Nat → ClassId) (dI : Nat → Nat → Nat) (cI cB cZ : ClassId) (x0 : Nat) (x1 : Nat) (ln : Int) (pl : Int) (ft : Int) (tk : Int) (tS : Int) (bys : Int → Int) (adK : Nat → Nat) (adV : Nat → Nat) (kt : Nat) (hln : 0 ≤ ln ∧ ln ≤ 200) (hby : ∀ k : Int, 0 ≤ k → k < ln → 0 ≤ bys k ∧ bys k ≤ 255) (hpl : 0 ≤ tS ∧ tS < ln ∧ pl = tS) (hdg : isLe (bys tS) = true) : MetX (S := (Int) × (Int) × (Int)) l yX3_readWord wsX3_readWord ({ frames := 5, cells := 0, slots := 0, locals := 107 }) (dC, dI) vwCl (zT cI cB cZ) (zX adK adV kt) [(x0, .inr (2, [.int (zI ln), .ref x1, .int (zI pl), .int (zI ft), .int (zI tk), .int (zI tS), .int (zI 0)])), (x1, .inl (cI, 200, .inl (zA bys)))] [.ref x0] (fun u => none) (fun u => [(x0, .inr (2, [.int (zI ln), .ref x1, .int (zI u.1), .int (zI ft), .int (zI u.2.1), .int (zI tS), .int (zI u.2.2)])), (x1, .inl (cI, 200, .inl (zA bys)))]) (fun u => (u.1 = skE isLe ln bys tS) ∧ (u.2.1 = if wdK ln bys tS (skE isLe ln bys tS) = 7 then 4 else 1) ∧ (u.2.2 = if wdK ln bys tS (skE isLe ln bys tS) = 7 then 0 else wdK ln bys tS (skE isLe ln bys tS))) := by
  refine MetX.intro (cc := cX3_readWord) (maxL := 1) (ret := none) (by decide) rfl (Nat.le_of_ble_eq_true rfl) ?_
  intro p e s m args below meth c A hx hb hr hlocks hml hts hown hP hK hD hS hA hE ls hl
  have hown : s.vm.findClass RX3 = some m.cls := hown
  have hEX := hE
  have hE : zN s := hEX.1
  have hl : lv_has ls 1 [(0, .ref x0)] := hl
  generalize hRM : ({ frames := 5, cells := 0, slots := 0, locals := 107 } : Room) = RM
  generalize hQQ : MQ below (QW (S := (Int) × (Int) × (Int)) (dC, dI) vwCl A (fun u => none) (fun u => [(x0, .inr (2, [.int (zI ln), .ref x1, .int (zI u.1), .int (zI ft), .int (zI u.2.1), .int (zI tS), .int (zI u.2.2)])), (x1, .inl (cI, 200, .inl (zA bys)))]) (fun u => (u.1 = skE isLe ln bys tS) ∧ (u.2.1 = if wdK ln bys tS (skE isLe ln bys tS) = 7 then 4 else 1) ∧ (u.2.2 = if wdK ln bys tS (skE isLe ln bys tS) = 7 then 0 else wdK ln bys tS (skE isLe ln bys tS)))) args s 0 0 A = QQ
  have in_X3 : ∀ w ∈ wsX30, w ∈ wsX3_readWord := by decide +kernel
  have w_0 := hts (.fieldLink RX3 24 "WallMarbles$Text" "place" "I") (by decide +kernel)
  have w_1 := hts (.fieldLink RX3 15 "WallMarbles$Text" "length" "I") (by decide +kernel)
  have w_2 := hts (.fieldLink RX3 33 "WallMarbles$Text" "token" "I") (by decide +kernel)
  have w_3 := hts (.fieldLink RX3 43 "WallMarbles$Text" "value" "I") (by decide +kernel)
  have cut0 : ∀ (nM : Nat) (q : Int),  ((ln - q).toNat) < nM → (tS ≤ q ∧ q ≤ ln) → (skE isLe ln bys q = skE isLe ln bys tS) → ∀ (H : Heap) (locs : List Loc), va_P (dC, dI) vwCl [(x0, .inr (2, [.int (zI ln), .ref x1, .int (zI q), .int (zI ft), .int (zI tk), .int (zI tS), .int (zI 0)])), (x1, .inl (cI, 200, .inl (zA bys)))] H → va_D A [(x0, .inr (2, [.int (zI ln), .ref x1, .int (zI q), .int (zI ft), .int (zI tk), .int (zI tS), .int (zI 0)])), (x1, .inl (cI, 200, .inl (zA bys)))] → va_S A s.heap H locs → ∀ ls : Array Slot, lv_has ls 1 [(0, .ref x0)] → W p l e RM s m args below meth c H locs 0 0 QQ (F0 m 0 ls []) := by
    intro nM
    induction nM with
    | zero => intro q hmu; exact absurd hmu (Nat.not_lt_zero _)
    | succ nM ih0 =>
      intro q hmu hq hsk H locs hP hD hS ls hl
      refine lv_aload_n hx hb dX3_readWord_0 rfl (lv_at hl 0 rfl) ?_
      refine va_get (D := (dC, dI)) (ci := 2) (v := .int (zI q)) (C := RX3) (T := TX3) (N := 7) hx hb hts in_X3 hown hK hP 0 rfl rfl 2 (by decide) w_0 (fun _ h9 => h9) rfl dX3_readWord_1 ?_
      refine lv_aload_n hx hb dX3_readWord_4 rfl (lv_at hl 0 rfl) ?_
      refine va_get (D := (dC, dI)) (ci := 2) (v := .int (zI ln)) (C := RX3) (T := TX3) (N := 7) hx hb hts in_X3 hown hK hP 0 rfl rfl 0 (by decide) w_1 (fun _ h9 => h9) rfl dX3_readWord_5 ?_
      refine zv_icmp_ge (tgt := 38) hx hb (by omega) (by omega) dX3_readWord_8 (by decide) (fun c_8 => ?_) (fun c_8 => ?_)
      · have heq : q = skE isLe ln bys tS := by rw [← hsk]; exact (skE_n (by first | (intro z; omega) | (intro z; exact c_22 z.2))).symm
        refine lv_aload_n hx hb dX3_readWord_38 rfl (lv_at hl 0 rfl) ?_
        refine zv_iconst hx hb dX3_readWord_39 ?_
        refine va_put (D := (dC, dI)) (ci := 2) (v := .int (zI 1)) (ty := .int) (C := RX3) (T := TX3) (N := 7) hx hb hts in_X3 tyX3 tyX3_ok nmX3 hown hK hP hD hS 0 rfl rfl 4 (by decide) w_2 (fun _ h9 => h9) rfl (by decide +kernel) rfl rfl (Nat.le_of_ble_eq_true rfl) dX3_readWord_40 (fun H locs hP hD hS => ?_)
        have hP : va_P (dC, dI) vwCl [(x0, .inr (2, [.int (zI ln), .ref x1, .int (zI q), .int (zI ft), .int (zI 1), .int (zI tS), .int (zI 0)])), (x1, .inl (cI, 200, .inl (zA bys)))] H := hP
        have hD : va_D A [(x0, .inr (2, [.int (zI ln), .ref x1, .int (zI q), .int (zI ft), .int (zI 1), .int (zI tS), .int (zI 0)])), (x1, .inl (cI, 200, .inl (zA bys)))] := hD
        refine lv_aload_n hx hb dX3_readWord_43 rfl (lv_at hl 0 rfl) ?_
        refine va_ldcS hx hb hown hEX.2.2.1.1 dX3_readWord_44 ?_
        refine zv_callRV (As := [.ref (adK 0)]) (rest := []) ⟨hx, hb, hml, hown, hts⟩ (c_X3_tokenIs l dC dI cI cB cZ x0 x1 ln q ft 1 tS 0 bys adK adV kt 0 (by omega) (by exact hby) (by omega) (by omega)) (cwV 1 hts gX3_readWord_X3_tokenIs rfl rfl rfl (by decide +kernel) ⟨by rw [← hRM]; first | decide | (dsimp only; omega), by rw [← hRM]; first | decide | (dsimp only; omega)⟩) hP hK [0, 1] rfl [0, 1, 2] rfl (zX_bl _) (zX_go hEX hS _ (fun _ h => False.elim h)) (q0 := 0) rfl rfl rfl rfl hl.1 rfl (Nat.le_of_ble_eq_true rfl) dX3_readWord_46 ⟨Nat.zero_le _, Nat.zero_le _⟩ ?_
        refine zv_ifeq_b (tgt := 60) hx hb dX3_readWord_49 (by decide) (fun c_49 => ?_) (fun c_49 => ?_)
        · refine lv_aload_n hx hb dX3_readWord_60 rfl (lv_at hl 0 rfl) ?_
          refine va_ldcS hx hb hown hEX.2.2.1.2.1 dX3_readWord_61 ?_
          refine zv_callRV (As := [.ref (adK 1)]) (rest := []) ⟨hx, hb, hml, hown, hts⟩ (c_X3_tokenIs l dC dI cI cB cZ x0 x1 ln q ft 1 tS 0 bys adK adV kt 1 (by omega) (by exact hby) (by omega) (by omega)) (cwV 1 hts gX3_readWord_X3_tokenIs rfl rfl rfl (by decide +kernel) ⟨by rw [← hRM]; first | decide | (dsimp only; omega), by rw [← hRM]; first | decide | (dsimp only; omega)⟩) hP hK [0, 1] rfl [0, 1, 2] rfl (zX_bl _) (zX_go hEX hS _ (fun _ h => False.elim h)) (q0 := 0) rfl rfl rfl rfl hl.1 rfl (Nat.le_of_ble_eq_true rfl) dX3_readWord_63 ⟨Nat.zero_le _, Nat.zero_le _⟩ ?_
          refine zv_ifeq_b (tgt := 77) hx hb dX3_readWord_66 (by decide) (fun c_66 => ?_) (fun c_66 => ?_)
          · refine lv_aload_n hx hb dX3_readWord_77 rfl (lv_at hl 0 rfl) ?_
            refine va_ldcS hx hb hown hEX.2.2.1.2.2.1 dX3_readWord_78 ?_
            refine zv_callRV (As := [.ref (adK 2)]) (rest := []) ⟨hx, hb, hml, hown, hts⟩ (c_X3_tokenIs l dC dI cI cB cZ x0 x1 ln q ft 1 tS 0 bys adK adV kt 2 (by omega) (by exact hby) (by omega) (by omega)) (cwV 1 hts gX3_readWord_X3_tokenIs rfl rfl rfl (by decide +kernel) ⟨by rw [← hRM]; first | decide | (dsimp only; omega), by rw [← hRM]; first | decide | (dsimp only; omega)⟩) hP hK [0, 1] rfl [0, 1, 2] rfl (zX_bl _) (zX_go hEX hS _ (fun _ h => False.elim h)) (q0 := 0) rfl rfl rfl rfl hl.1 rfl (Nat.le_of_ble_eq_true rfl) dX3_readWord_80 ⟨Nat.zero_le _, Nat.zero_le _⟩ ?_
            refine zv_ifeq_b (tgt := 94) hx hb dX3_readWord_83 (by decide) (fun c_83 => ?_) (fun c_83 => ?_)
            · refine lv_aload_n hx hb dX3_readWord_94 rfl (lv_at hl 0 rfl) ?_
              refine va_ldcS hx hb hown hEX.2.2.1.2.2.2 dX3_readWord_95 ?_
              refine zv_callRV (As := [.ref (adK 3)]) (rest := []) ⟨hx, hb, hml, hown, hts⟩ (c_X3_tokenIs l dC dI cI cB cZ x0 x1 ln q ft 1 tS 0 bys adK adV kt 3 (by omega) (by exact hby) (by omega) (by omega)) (cwV 1 hts gX3_readWord_X3_tokenIs rfl rfl rfl (by decide +kernel) ⟨by rw [← hRM]; first | decide | (dsimp only; omega), by rw [← hRM]; first | decide | (dsimp only; omega)⟩) hP hK [0, 1] rfl [0, 1, 2] rfl (zX_bl _) (zX_go hEX hS _ (fun _ h => False.elim h)) (q0 := 0) rfl rfl rfl rfl hl.1 rfl (Nat.le_of_ble_eq_true rfl) dX3_readWord_97 ⟨Nat.zero_le _, Nat.zero_le _⟩ ?_
              refine zv_ifeq_b (tgt := 111) hx hb dX3_readWord_100 (by decide) (fun c_100 => ?_) (fun c_100 => ?_)
              · refine lv_aload_n hx hb dX3_readWord_111 rfl (lv_at hl 0 rfl) ?_
                refine zv_iconst hx hb dX3_readWord_112 ?_
                refine va_put (D := (dC, dI)) (ci := 2) (v := .int (zI 4)) (ty := .int) (C := RX3) (T := TX3) (N := 7) hx hb hts in_X3 tyX3 tyX3_ok nmX3 hown hK hP hD hS 0 rfl rfl 4 (by decide) w_2 (fun _ h9 => h9) rfl (by decide +kernel) rfl rfl (Nat.le_of_ble_eq_true rfl) dX3_readWord_113 (fun H locs hP hD hS => ?_)
                have hP : va_P (dC, dI) vwCl [(x0, .inr (2, [.int (zI ln), .ref x1, .int (zI q), .int (zI ft), .int (zI 4), .int (zI tS), .int (zI 0)])), (x1, .inl (cI, 200, .inl (zA bys)))] H := hP
                have hD : va_D A [(x0, .inr (2, [.int (zI ln), .ref x1, .int (zI q), .int (zI ft), .int (zI 4), .int (zI tS), .int (zI 0)])), (x1, .inl (cI, 200, .inl (zA bys)))] := hD
                rw [← hQQ]
                exact zw_vret hx hb hr hlocks (q, 4, 0) rfl ⟨(by exact heq), (by rw [← heq]; unfold wdK; (repeat' split) <;> first | rfl | (exfalso; omega) | (exfalso; first | exact c_49 (by assumption) | exact c_66 (by assumption) | exact c_83 (by assumption) | exact c_100 (by assumption)) | (exfalso; contradiction)), (by rw [← heq]; unfold wdK; (repeat' split) <;> first | rfl | (exfalso; omega) | (exfalso; first | exact c_49 (by assumption) | exact c_66 (by assumption) | exact c_83 (by assumption) | exact c_100 (by assumption)) | (exfalso; contradiction))⟩ hP hS dX3_readWord_116
              · refine lv_aload_n hx hb dX3_readWord_103 rfl (lv_at hl 0 rfl) ?_
                refine zv_iconst hx hb dX3_readWord_104 ?_
                refine va_put (D := (dC, dI)) (ci := 2) (v := .int (zI 3)) (ty := .int) (C := RX3) (T := TX3) (N := 7) hx hb hts in_X3 tyX3 tyX3_ok nmX3 hown hK hP hD hS 0 rfl rfl 6 (by decide) w_3 (fun _ h9 => h9) rfl (by decide +kernel) rfl rfl (Nat.le_of_ble_eq_true rfl) dX3_readWord_105 (fun H locs hP hD hS => ?_)
                have hP : va_P (dC, dI) vwCl [(x0, .inr (2, [.int (zI ln), .ref x1, .int (zI q), .int (zI ft), .int (zI 1), .int (zI tS), .int (zI 3)])), (x1, .inl (cI, 200, .inl (zA bys)))] H := hP
                have hD : va_D A [(x0, .inr (2, [.int (zI ln), .ref x1, .int (zI q), .int (zI ft), .int (zI 1), .int (zI tS), .int (zI 3)])), (x1, .inl (cI, 200, .inl (zA bys)))] := hD
                refine lv_goto (tgt := 116) hx hb dX3_readWord_108 (by decide) ?_
                rw [← hQQ]
                exact zw_vret hx hb hr hlocks (q, 1, 3) rfl ⟨(by exact heq), (by rw [← heq]; unfold wdK; (repeat' split) <;> first | rfl | (exfalso; omega) | (exfalso; first | exact c_49 (by assumption) | exact c_66 (by assumption) | exact c_83 (by assumption) | exact c_100 (by assumption)) | (exfalso; contradiction)), (by rw [← heq]; unfold wdK; (repeat' split) <;> first | rfl | (exfalso; omega) | (exfalso; first | exact c_49 (by assumption) | exact c_66 (by assumption) | exact c_83 (by assumption) | exact c_100 (by assumption)) | (exfalso; contradiction))⟩ hP hS dX3_readWord_116
            · refine lv_aload_n hx hb dX3_readWord_86 rfl (lv_at hl 0 rfl) ?_
              refine zv_iconst hx hb dX3_readWord_87 ?_
              refine va_put (D := (dC, dI)) (ci := 2) (v := .int (zI 2)) (ty := .int) (C := RX3) (T := TX3) (N := 7) hx hb hts in_X3 tyX3 tyX3_ok nmX3 hown hK hP hD hS 0 rfl rfl 6 (by decide) w_3 (fun _ h9 => h9) rfl (by decide +kernel) rfl rfl (Nat.le_of_ble_eq_true rfl) dX3_readWord_88 (fun H locs hP hD hS => ?_)
              have hP : va_P (dC, dI) vwCl [(x0, .inr (2, [.int (zI ln), .ref x1, .int (zI q), .int (zI ft), .int (zI 1), .int (zI tS), .int (zI 2)])), (x1, .inl (cI, 200, .inl (zA bys)))] H := hP
              have hD : va_D A [(x0, .inr (2, [.int (zI ln), .ref x1, .int (zI q), .int (zI ft), .int (zI 1), .int (zI tS), .int (zI 2)])), (x1, .inl (cI, 200, .inl (zA bys)))] := hD
              refine lv_goto (tgt := 116) hx hb dX3_readWord_91 (by decide) ?_
              rw [← hQQ]
              exact zw_vret hx hb hr hlocks (q, 1, 2) rfl ⟨(by exact heq), (by rw [← heq]; unfold wdK; (repeat' split) <;> first | rfl | (exfalso; omega) | (exfalso; first | exact c_49 (by assumption) | exact c_66 (by assumption) | exact c_83 (by assumption) | exact c_100 (by assumption)) | (exfalso; contradiction)), (by rw [← heq]; unfold wdK; (repeat' split) <;> first | rfl | (exfalso; omega) | (exfalso; first | exact c_49 (by assumption) | exact c_66 (by assumption) | exact c_83 (by assumption) | exact c_100 (by assumption)) | (exfalso; contradiction))⟩ hP hS dX3_readWord_116
          · refine lv_aload_n hx hb dX3_readWord_69 rfl (lv_at hl 0 rfl) ?_
            refine zv_iconst hx hb dX3_readWord_70 ?_
            refine va_put (D := (dC, dI)) (ci := 2) (v := .int (zI 1)) (ty := .int) (C := RX3) (T := TX3) (N := 7) hx hb hts in_X3 tyX3 tyX3_ok nmX3 hown hK hP hD hS 0 rfl rfl 6 (by decide) w_3 (fun _ h9 => h9) rfl (by decide +kernel) rfl rfl (Nat.le_of_ble_eq_true rfl) dX3_readWord_71 (fun H locs hP hD hS => ?_)
            have hP : va_P (dC, dI) vwCl [(x0, .inr (2, [.int (zI ln), .ref x1, .int (zI q), .int (zI ft), .int (zI 1), .int (zI tS), .int (zI 1)])), (x1, .inl (cI, 200, .inl (zA bys)))] H := hP
            have hD : va_D A [(x0, .inr (2, [.int (zI ln), .ref x1, .int (zI q), .int (zI ft), .int (zI 1), .int (zI tS), .int (zI 1)])), (x1, .inl (cI, 200, .inl (zA bys)))] := hD
            refine lv_goto (tgt := 116) hx hb dX3_readWord_74 (by decide) ?_
            rw [← hQQ]
            exact zw_vret hx hb hr hlocks (q, 1, 1) rfl ⟨(by exact heq), (by rw [← heq]; unfold wdK; (repeat' split) <;> first | rfl | (exfalso; omega) | (exfalso; first | exact c_49 (by assumption) | exact c_66 (by assumption) | exact c_83 (by assumption) | exact c_100 (by assumption)) | (exfalso; contradiction)), (by rw [← heq]; unfold wdK; (repeat' split) <;> first | rfl | (exfalso; omega) | (exfalso; first | exact c_49 (by assumption) | exact c_66 (by assumption) | exact c_83 (by assumption) | exact c_100 (by assumption)) | (exfalso; contradiction))⟩ hP hS dX3_readWord_116
        · refine lv_aload_n hx hb dX3_readWord_52 rfl (lv_at hl 0 rfl) ?_
          refine zv_iconst hx hb dX3_readWord_53 ?_
          refine va_put (D := (dC, dI)) (ci := 2) (v := .int (zI 0)) (ty := .int) (C := RX3) (T := TX3) (N := 7) hx hb hts in_X3 tyX3 tyX3_ok nmX3 hown hK hP hD hS 0 rfl rfl 6 (by decide) w_3 (fun _ h9 => h9) rfl (by decide +kernel) rfl rfl (Nat.le_of_ble_eq_true rfl) dX3_readWord_54 (fun H locs hP hD hS => ?_)
          have hP : va_P (dC, dI) vwCl [(x0, .inr (2, [.int (zI ln), .ref x1, .int (zI q), .int (zI ft), .int (zI 1), .int (zI tS), .int (zI 0)])), (x1, .inl (cI, 200, .inl (zA bys)))] H := hP
          have hD : va_D A [(x0, .inr (2, [.int (zI ln), .ref x1, .int (zI q), .int (zI ft), .int (zI 1), .int (zI tS), .int (zI 0)])), (x1, .inl (cI, 200, .inl (zA bys)))] := hD
          refine lv_goto (tgt := 116) hx hb dX3_readWord_57 (by decide) ?_
          rw [← hQQ]
          exact zw_vret hx hb hr hlocks (q, 1, 0) rfl ⟨(by exact heq), (by rw [← heq]; unfold wdK; (repeat' split) <;> first | rfl | (exfalso; omega) | (exfalso; first | exact c_49 (by assumption) | exact c_66 (by assumption) | exact c_83 (by assumption) | exact c_100 (by assumption)) | (exfalso; contradiction)), (by rw [← heq]; unfold wdK; (repeat' split) <;> first | rfl | (exfalso; omega) | (exfalso; first | exact c_49 (by assumption) | exact c_66 (by assumption) | exact c_83 (by assumption) | exact c_100 (by assumption)) | (exfalso; contradiction))⟩ hP hS dX3_readWord_116
      · refine lv_aload_n hx hb dX3_readWord_11 rfl (lv_at hl 0 rfl) ?_
        refine lv_aload_n hx hb dX3_readWord_12 rfl (lv_at hl 0 rfl) ?_
        refine va_get (D := (dC, dI)) (ci := 2) (v := .int (zI q)) (C := RX3) (T := TX3) (N := 7) hx hb hts in_X3 hown hK hP 0 rfl rfl 2 (by decide) w_0 (fun _ h9 => h9) rfl dX3_readWord_13 ?_
        have yq := hby q (by omega) (by omega)
        refine zv_callRV (As := [.int (zI q)]) (rest := []) ⟨hx, hb, hml, hown, hts⟩ (c_X3_signAt l dC dI cI cB cZ x0 x1 ln q ft tk tS 0 bys q (by omega) (by omega)) (cwV 1 hts gX3_readWord_X3_signAt rfl rfl rfl (by decide +kernel) ⟨by rw [← hRM]; first | decide | (dsimp only; omega), by rw [← hRM]; first | decide | (dsimp only; omega)⟩) hP hK [0, 1] rfl [0, 1, 2] rfl zN_bl (zN_go hE) (q0 := 0) rfl rfl rfl rfl hl.1 rfl (Nat.le_of_ble_eq_true rfl) dX3_readWord_16 ⟨Nat.zero_le _, Nat.zero_le _⟩ ?_
        rw [show (sgA ln bys q) = bys q from sgA_in (by omega)]
        refine zv_callRS (As := [.int (zI (bys q))]) (rest := []) ⟨hx, hb, hml, hown, hts⟩ (c_X3_isLetter l dC dI cI cB cZ (bys q) (by omega)) (va_cwS 1 hts gX3_readWord_X3_isLetter rfl rfl rfl (by decide +kernel) ⟨by rw [← hRM]; first | decide | (dsimp only; omega), by rw [← hRM]; first | decide | (dsimp only; omega)⟩) hP hK [] rfl [0, 1, 2] rfl zN_bl (zN_go hE) rfl hl.1 rfl (Nat.le_of_ble_eq_true rfl) dX3_readWord_19 ⟨Nat.zero_le _, Nat.zero_le _⟩ ?_
        refine zv_ifeq_b (tgt := 38) hx hb dX3_readWord_22 (by decide) (fun c_22 => ?_) (fun c_22 => ?_)
        · have heq : q = skE isLe ln bys tS := by rw [← hsk]; exact (skE_n (by first | (intro z; omega) | (intro z; exact c_22 z.2))).symm
          refine lv_aload_n hx hb dX3_readWord_38 rfl (lv_at hl 0 rfl) ?_
          refine zv_iconst hx hb dX3_readWord_39 ?_
          refine va_put (D := (dC, dI)) (ci := 2) (v := .int (zI 1)) (ty := .int) (C := RX3) (T := TX3) (N := 7) hx hb hts in_X3 tyX3 tyX3_ok nmX3 hown hK hP hD hS 0 rfl rfl 4 (by decide) w_2 (fun _ h9 => h9) rfl (by decide +kernel) rfl rfl (Nat.le_of_ble_eq_true rfl) dX3_readWord_40 (fun H locs hP hD hS => ?_)
          have hP : va_P (dC, dI) vwCl [(x0, .inr (2, [.int (zI ln), .ref x1, .int (zI q), .int (zI ft), .int (zI 1), .int (zI tS), .int (zI 0)])), (x1, .inl (cI, 200, .inl (zA bys)))] H := hP
          have hD : va_D A [(x0, .inr (2, [.int (zI ln), .ref x1, .int (zI q), .int (zI ft), .int (zI 1), .int (zI tS), .int (zI 0)])), (x1, .inl (cI, 200, .inl (zA bys)))] := hD
          refine lv_aload_n hx hb dX3_readWord_43 rfl (lv_at hl 0 rfl) ?_
          refine va_ldcS hx hb hown hEX.2.2.1.1 dX3_readWord_44 ?_
          refine zv_callRV (As := [.ref (adK 0)]) (rest := []) ⟨hx, hb, hml, hown, hts⟩ (c_X3_tokenIs l dC dI cI cB cZ x0 x1 ln q ft 1 tS 0 bys adK adV kt 0 (by omega) (by exact hby) (by omega) (by omega)) (cwV 1 hts gX3_readWord_X3_tokenIs rfl rfl rfl (by decide +kernel) ⟨by rw [← hRM]; first | decide | (dsimp only; omega), by rw [← hRM]; first | decide | (dsimp only; omega)⟩) hP hK [0, 1] rfl [0, 1, 2] rfl (zX_bl _) (zX_go hEX hS _ (fun _ h => False.elim h)) (q0 := 0) rfl rfl rfl rfl hl.1 rfl (Nat.le_of_ble_eq_true rfl) dX3_readWord_46 ⟨Nat.zero_le _, Nat.zero_le _⟩ ?_
          refine zv_ifeq_b (tgt := 60) hx hb dX3_readWord_49 (by decide) (fun c_49 => ?_) (fun c_49 => ?_)
          · refine lv_aload_n hx hb dX3_readWord_60 rfl (lv_at hl 0 rfl) ?_
            refine va_ldcS hx hb hown hEX.2.2.1.2.1 dX3_readWord_61 ?_
            refine zv_callRV (As := [.ref (adK 1)]) (rest := []) ⟨hx, hb, hml, hown, hts⟩ (c_X3_tokenIs l dC dI cI cB cZ x0 x1 ln q ft 1 tS 0 bys adK adV kt 1 (by omega) (by exact hby) (by omega) (by omega)) (cwV 1 hts gX3_readWord_X3_tokenIs rfl rfl rfl (by decide +kernel) ⟨by rw [← hRM]; first | decide | (dsimp only; omega), by rw [← hRM]; first | decide | (dsimp only; omega)⟩) hP hK [0, 1] rfl [0, 1, 2] rfl (zX_bl _) (zX_go hEX hS _ (fun _ h => False.elim h)) (q0 := 0) rfl rfl rfl rfl hl.1 rfl (Nat.le_of_ble_eq_true rfl) dX3_readWord_63 ⟨Nat.zero_le _, Nat.zero_le _⟩ ?_
            refine zv_ifeq_b (tgt := 77) hx hb dX3_readWord_66 (by decide) (fun c_66 => ?_) (fun c_66 => ?_)
            · refine lv_aload_n hx hb dX3_readWord_77 rfl (lv_at hl 0 rfl) ?_
              refine va_ldcS hx hb hown hEX.2.2.1.2.2.1 dX3_readWord_78 ?_
              refine zv_callRV (As := [.ref (adK 2)]) (rest := []) ⟨hx, hb, hml, hown, hts⟩ (c_X3_tokenIs l dC dI cI cB cZ x0 x1 ln q ft 1 tS 0 bys adK adV kt 2 (by omega) (by exact hby) (by omega) (by omega)) (cwV 1 hts gX3_readWord_X3_tokenIs rfl rfl rfl (by decide +kernel) ⟨by rw [← hRM]; first | decide | (dsimp only; omega), by rw [← hRM]; first | decide | (dsimp only; omega)⟩) hP hK [0, 1] rfl [0, 1, 2] rfl (zX_bl _) (zX_go hEX hS _ (fun _ h => False.elim h)) (q0 := 0) rfl rfl rfl rfl hl.1 rfl (Nat.le_of_ble_eq_true rfl) dX3_readWord_80 ⟨Nat.zero_le _, Nat.zero_le _⟩ ?_
              refine zv_ifeq_b (tgt := 94) hx hb dX3_readWord_83 (by decide) (fun c_83 => ?_) (fun c_83 => ?_)
              · refine lv_aload_n hx hb dX3_readWord_94 rfl (lv_at hl 0 rfl) ?_
                refine va_ldcS hx hb hown hEX.2.2.1.2.2.2 dX3_readWord_95 ?_
                refine zv_callRV (As := [.ref (adK 3)]) (rest := []) ⟨hx, hb, hml, hown, hts⟩ (c_X3_tokenIs l dC dI cI cB cZ x0 x1 ln q ft 1 tS 0 bys adK adV kt 3 (by omega) (by exact hby) (by omega) (by omega)) (cwV 1 hts gX3_readWord_X3_tokenIs rfl rfl rfl (by decide +kernel) ⟨by rw [← hRM]; first | decide | (dsimp only; omega), by rw [← hRM]; first | decide | (dsimp only; omega)⟩) hP hK [0, 1] rfl [0, 1, 2] rfl (zX_bl _) (zX_go hEX hS _ (fun _ h => False.elim h)) (q0 := 0) rfl rfl rfl rfl hl.1 rfl (Nat.le_of_ble_eq_true rfl) dX3_readWord_97 ⟨Nat.zero_le _, Nat.zero_le _⟩ ?_
                refine zv_ifeq_b (tgt := 111) hx hb dX3_readWord_100 (by decide) (fun c_100 => ?_) (fun c_100 => ?_)
                · refine lv_aload_n hx hb dX3_readWord_111 rfl (lv_at hl 0 rfl) ?_
                  refine zv_iconst hx hb dX3_readWord_112 ?_
                  refine va_put (D := (dC, dI)) (ci := 2) (v := .int (zI 4)) (ty := .int) (C := RX3) (T := TX3) (N := 7) hx hb hts in_X3 tyX3 tyX3_ok nmX3 hown hK hP hD hS 0 rfl rfl 4 (by decide) w_2 (fun _ h9 => h9) rfl (by decide +kernel) rfl rfl (Nat.le_of_ble_eq_true rfl) dX3_readWord_113 (fun H locs hP hD hS => ?_)
                  have hP : va_P (dC, dI) vwCl [(x0, .inr (2, [.int (zI ln), .ref x1, .int (zI q), .int (zI ft), .int (zI 4), .int (zI tS), .int (zI 0)])), (x1, .inl (cI, 200, .inl (zA bys)))] H := hP
                  have hD : va_D A [(x0, .inr (2, [.int (zI ln), .ref x1, .int (zI q), .int (zI ft), .int (zI 4), .int (zI tS), .int (zI 0)])), (x1, .inl (cI, 200, .inl (zA bys)))] := hD
                  rw [← hQQ]
                  exact zw_vret hx hb hr hlocks (q, 4, 0) rfl ⟨(by exact heq), (by rw [← heq]; unfold wdK; (repeat' split) <;> first | rfl | (exfalso; omega) | (exfalso; first | exact c_49 (by assumption) | exact c_66 (by assumption) | exact c_83 (by assumption) | exact c_100 (by assumption)) | (exfalso; contradiction)), (by rw [← heq]; unfold wdK; (repeat' split) <;> first | rfl | (exfalso; omega) | (exfalso; first | exact c_49 (by assumption) | exact c_66 (by assumption) | exact c_83 (by assumption) | exact c_100 (by assumption)) | (exfalso; contradiction))⟩ hP hS dX3_readWord_116
                · refine lv_aload_n hx hb dX3_readWord_103 rfl (lv_at hl 0 rfl) ?_
                  refine zv_iconst hx hb dX3_readWord_104 ?_
                  refine va_put (D := (dC, dI)) (ci := 2) (v := .int (zI 3)) (ty := .int) (C := RX3) (T := TX3) (N := 7) hx hb hts in_X3 tyX3 tyX3_ok nmX3 hown hK hP hD hS 0 rfl rfl 6 (by decide) w_3 (fun _ h9 => h9) rfl (by decide +kernel) rfl rfl (Nat.le_of_ble_eq_true rfl) dX3_readWord_105 (fun H locs hP hD hS => ?_)
                  have hP : va_P (dC, dI) vwCl [(x0, .inr (2, [.int (zI ln), .ref x1, .int (zI q), .int (zI ft), .int (zI 1), .int (zI tS), .int (zI 3)])), (x1, .inl (cI, 200, .inl (zA bys)))] H := hP
                  have hD : va_D A [(x0, .inr (2, [.int (zI ln), .ref x1, .int (zI q), .int (zI ft), .int (zI 1), .int (zI tS), .int (zI 3)])), (x1, .inl (cI, 200, .inl (zA bys)))] := hD
                  refine lv_goto (tgt := 116) hx hb dX3_readWord_108 (by decide) ?_
                  rw [← hQQ]
                  exact zw_vret hx hb hr hlocks (q, 1, 3) rfl ⟨(by exact heq), (by rw [← heq]; unfold wdK; (repeat' split) <;> first | rfl | (exfalso; omega) | (exfalso; first | exact c_49 (by assumption) | exact c_66 (by assumption) | exact c_83 (by assumption) | exact c_100 (by assumption)) | (exfalso; contradiction)), (by rw [← heq]; unfold wdK; (repeat' split) <;> first | rfl | (exfalso; omega) | (exfalso; first | exact c_49 (by assumption) | exact c_66 (by assumption) | exact c_83 (by assumption) | exact c_100 (by assumption)) | (exfalso; contradiction))⟩ hP hS dX3_readWord_116
              · refine lv_aload_n hx hb dX3_readWord_86 rfl (lv_at hl 0 rfl) ?_
                refine zv_iconst hx hb dX3_readWord_87 ?_
                refine va_put (D := (dC, dI)) (ci := 2) (v := .int (zI 2)) (ty := .int) (C := RX3) (T := TX3) (N := 7) hx hb hts in_X3 tyX3 tyX3_ok nmX3 hown hK hP hD hS 0 rfl rfl 6 (by decide) w_3 (fun _ h9 => h9) rfl (by decide +kernel) rfl rfl (Nat.le_of_ble_eq_true rfl) dX3_readWord_88 (fun H locs hP hD hS => ?_)
                have hP : va_P (dC, dI) vwCl [(x0, .inr (2, [.int (zI ln), .ref x1, .int (zI q), .int (zI ft), .int (zI 1), .int (zI tS), .int (zI 2)])), (x1, .inl (cI, 200, .inl (zA bys)))] H := hP
                have hD : va_D A [(x0, .inr (2, [.int (zI ln), .ref x1, .int (zI q), .int (zI ft), .int (zI 1), .int (zI tS), .int (zI 2)])), (x1, .inl (cI, 200, .inl (zA bys)))] := hD
                refine lv_goto (tgt := 116) hx hb dX3_readWord_91 (by decide) ?_
                rw [← hQQ]
                exact zw_vret hx hb hr hlocks (q, 1, 2) rfl ⟨(by exact heq), (by rw [← heq]; unfold wdK; (repeat' split) <;> first | rfl | (exfalso; omega) | (exfalso; first | exact c_49 (by assumption) | exact c_66 (by assumption) | exact c_83 (by assumption) | exact c_100 (by assumption)) | (exfalso; contradiction)), (by rw [← heq]; unfold wdK; (repeat' split) <;> first | rfl | (exfalso; omega) | (exfalso; first | exact c_49 (by assumption) | exact c_66 (by assumption) | exact c_83 (by assumption) | exact c_100 (by assumption)) | (exfalso; contradiction))⟩ hP hS dX3_readWord_116
            · refine lv_aload_n hx hb dX3_readWord_69 rfl (lv_at hl 0 rfl) ?_
              refine zv_iconst hx hb dX3_readWord_70 ?_
              refine va_put (D := (dC, dI)) (ci := 2) (v := .int (zI 1)) (ty := .int) (C := RX3) (T := TX3) (N := 7) hx hb hts in_X3 tyX3 tyX3_ok nmX3 hown hK hP hD hS 0 rfl rfl 6 (by decide) w_3 (fun _ h9 => h9) rfl (by decide +kernel) rfl rfl (Nat.le_of_ble_eq_true rfl) dX3_readWord_71 (fun H locs hP hD hS => ?_)
              have hP : va_P (dC, dI) vwCl [(x0, .inr (2, [.int (zI ln), .ref x1, .int (zI q), .int (zI ft), .int (zI 1), .int (zI tS), .int (zI 1)])), (x1, .inl (cI, 200, .inl (zA bys)))] H := hP
              have hD : va_D A [(x0, .inr (2, [.int (zI ln), .ref x1, .int (zI q), .int (zI ft), .int (zI 1), .int (zI tS), .int (zI 1)])), (x1, .inl (cI, 200, .inl (zA bys)))] := hD
              refine lv_goto (tgt := 116) hx hb dX3_readWord_74 (by decide) ?_
              rw [← hQQ]
              exact zw_vret hx hb hr hlocks (q, 1, 1) rfl ⟨(by exact heq), (by rw [← heq]; unfold wdK; (repeat' split) <;> first | rfl | (exfalso; omega) | (exfalso; first | exact c_49 (by assumption) | exact c_66 (by assumption) | exact c_83 (by assumption) | exact c_100 (by assumption)) | (exfalso; contradiction)), (by rw [← heq]; unfold wdK; (repeat' split) <;> first | rfl | (exfalso; omega) | (exfalso; first | exact c_49 (by assumption) | exact c_66 (by assumption) | exact c_83 (by assumption) | exact c_100 (by assumption)) | (exfalso; contradiction))⟩ hP hS dX3_readWord_116
          · refine lv_aload_n hx hb dX3_readWord_52 rfl (lv_at hl 0 rfl) ?_
            refine zv_iconst hx hb dX3_readWord_53 ?_
            refine va_put (D := (dC, dI)) (ci := 2) (v := .int (zI 0)) (ty := .int) (C := RX3) (T := TX3) (N := 7) hx hb hts in_X3 tyX3 tyX3_ok nmX3 hown hK hP hD hS 0 rfl rfl 6 (by decide) w_3 (fun _ h9 => h9) rfl (by decide +kernel) rfl rfl (Nat.le_of_ble_eq_true rfl) dX3_readWord_54 (fun H locs hP hD hS => ?_)
            have hP : va_P (dC, dI) vwCl [(x0, .inr (2, [.int (zI ln), .ref x1, .int (zI q), .int (zI ft), .int (zI 1), .int (zI tS), .int (zI 0)])), (x1, .inl (cI, 200, .inl (zA bys)))] H := hP
            have hD : va_D A [(x0, .inr (2, [.int (zI ln), .ref x1, .int (zI q), .int (zI ft), .int (zI 1), .int (zI tS), .int (zI 0)])), (x1, .inl (cI, 200, .inl (zA bys)))] := hD
            refine lv_goto (tgt := 116) hx hb dX3_readWord_57 (by decide) ?_
            rw [← hQQ]
            exact zw_vret hx hb hr hlocks (q, 1, 0) rfl ⟨(by exact heq), (by rw [← heq]; unfold wdK; (repeat' split) <;> first | rfl | (exfalso; omega) | (exfalso; first | exact c_49 (by assumption) | exact c_66 (by assumption) | exact c_83 (by assumption) | exact c_100 (by assumption)) | (exfalso; contradiction)), (by rw [← heq]; unfold wdK; (repeat' split) <;> first | rfl | (exfalso; omega) | (exfalso; first | exact c_49 (by assumption) | exact c_66 (by assumption) | exact c_83 (by assumption) | exact c_100 (by assumption)) | (exfalso; contradiction))⟩ hP hS dX3_readWord_116
        · refine lv_aload_n hx hb dX3_readWord_25 rfl (lv_at hl 0 rfl) ?_
          refine lv_dup hx hb dX3_readWord_26 rfl ?_
          refine va_get (D := (dC, dI)) (ci := 2) (v := .int (zI q)) (C := RX3) (T := TX3) (N := 7) hx hb hts in_X3 hown hK hP 0 rfl rfl 2 (by decide) w_0 (fun _ h9 => h9) rfl dX3_readWord_27 ?_
          refine zv_iconst hx hb dX3_readWord_30 ?_
          refine zv_iadd hx hb dX3_readWord_31 ?_
          refine va_put (D := (dC, dI)) (ci := 2) (v := .int (zI (q + 1))) (ty := .int) (C := RX3) (T := TX3) (N := 7) hx hb hts in_X3 tyX3 tyX3_ok nmX3 hown hK hP hD hS 0 rfl rfl 2 (by decide) w_0 (fun _ h9 => h9) rfl (by decide +kernel) rfl rfl (Nat.le_of_ble_eq_true rfl) dX3_readWord_32 (fun H locs hP hD hS => ?_)
          have hP : va_P (dC, dI) vwCl [(x0, .inr (2, [.int (zI ln), .ref x1, .int (zI (q + 1)), .int (zI ft), .int (zI tk), .int (zI tS), .int (zI 0)])), (x1, .inl (cI, 200, .inl (zA bys)))] H := hP
          have hD : va_D A [(x0, .inr (2, [.int (zI ln), .ref x1, .int (zI (q + 1)), .int (zI ft), .int (zI tk), .int (zI tS), .int (zI 0)])), (x1, .inl (cI, 200, .inl (zA bys)))] := hD
          refine lv_goto (tgt := 0) hx hb dX3_readWord_35 (by decide) ?_
          exact ih0 (q + 1) (by omega) (by omega) (by rw [← hsk]; exact (skE_s (by omega) c_22).symm) _ _ hP hD hS _ (lv_sub hl [0] rfl)
  exact cut0 _ pl (Nat.lt_succ_self _) (by omega) (by rw [hpl.2.2]) _ _ hP hD hS _ (lv_sub hl [0] rfl)
