/-! rows of figures as lists: ds v, the lowest first; rw v, the first marble first -/
def ds : Nat → Int → List Int
  | 0, _ => []
  | f + 1, v => if v ≤ 0 then [] else (v % 10) :: ds f (v / 10)
def vl : List Int → Int
  | [] => 0
  | d :: l => d + 10 * vl l
def rw (v : Int) : List Int := (ds 10 v).reverse
def lodO (v : Int) : Int := if v = 9 then -9 else v
theorem ds_nil {f : Nat} {v : Int} (h : v ≤ 0) : ds f v = [] := by
  cases f with
  | zero => rfl
  | succ f => exact if_pos h
theorem ds_step {f : Nat} {v : Int} (h : 0 < v) : ds (f + 1) v = (v % 10) :: ds f (v / 10) := if_neg (by omega)
theorem ds_len : ∀ (f b : Nat) (v : Int), v < 10 ^ b → (ds f v).length ≤ b
  | 0, b, v, h => Nat.zero_le _
  | f + 1, b, v, h => by
    by_cases hv : v ≤ 0
    · rw [ds_nil hv]; exact Nat.zero_le _
    · rw [ds_step (by omega)]
      cases b with
      | zero => simp at h; omega
      | succ b =>
        have h2 : v / 10 < 10 ^ b := by
          rw [Int.pow_succ] at h
          omega
        have := ds_len f b (v / 10) h2
        simp only [List.length_cons]
        omega
theorem ds_len9 {v : Int} (h : 0 ≤ v ∧ v ≤ 999999999) : (ds 10 v).length ≤ 9 := ds_len 10 9 v (by omega)
theorem ds_nil9 {f : Nat} {v : Int} {i : Int} (h : i + ((ds f v).length : Int) ≤ 9) (h2 : i = 9) : ds f v = [] := List.eq_nil_of_length_eq_zero (by omega)
def rowB (v : Int) : Bool := decide (0 ≤ v ∧ v ≤ 999999999) && (ds 10 v).all (fun d => d == 1 || d == 2)
theorem rowB_rng {v : Int} (h : rowB v = true) : 0 ≤ v ∧ v ≤ 999999999 := by
  unfold rowB at h
  rw [Bool.and_eq_true] at h
  exact of_decide_eq_true h.1
theorem rowB_mem {v : Int} (h : rowB v = true) (d : Int) (hd : d ∈ ds 10 v) : d = 1 ∨ d = 2 := by
  unfold rowB at h
  rw [Bool.and_eq_true] at h
  have := List.all_eq_true.mp h.2 d hd
  simpa using this
theorem rowB_intro {v : Int} (h : 0 ≤ v ∧ v ≤ 999999999) (h2 : (ds 10 v).all (fun d => d == 1 || d == 2) = true) : rowB v = true := by
  unfold rowB
  rw [h2, decide_eq_true h]
  rfl
def lanD (n : Int) (so : Int → Int) (d : Int) : Bool := decide ((0 ≤ d - 1 ∧ d - 1 < n) ∧ so (d - 1) = 0)
def lanB (n : Int) (so : Int → Int) (v : Int) : Bool := decide (0 ≤ v ∧ v ≤ 9999) && (ds 10 v).all (lanD n so)
theorem lanB_rng {n : Int} {so : Int → Int} {v : Int} (h : lanB n so v = true) : 0 ≤ v ∧ v ≤ 9999 := by
  unfold lanB at h
  rw [Bool.and_eq_true] at h
  exact of_decide_eq_true h.1
theorem lanB_mem {n : Int} {so : Int → Int} {v : Int} (h : lanB n so v = true) (d : Int) (hd : d ∈ ds 10 v) : lanD n so d = true := by
  unfold lanB at h
  rw [Bool.and_eq_true] at h
  exact List.all_eq_true.mp h.2 d hd
theorem lanB_intro {n : Int} {so : Int → Int} {v : Int} (h : 0 ≤ v ∧ v ≤ 9999) (h2 : (ds 10 v).all (lanD n so) = true) : lanB n so v = true := by
  unfold lanB
  rw [h2, decide_eq_true h]
  rfl
set_option maxHeartbeats 4000000 in
set_option maxRecDepth 100000 in
theorem c_X5_isSize (l : Launch) (dC : Nat → ClassId) (dI : Nat → Nat → Nat) (cI cB cZ : ClassId) (v : Int) (hv : -2147483648 ≤ v ∧ v ≤ 2147483647) : MetR l yX5_isSize wsX5_isSize ({ frames := 0, cells := 0, slots := 0, locals := 0 }) (dC, dI) vwCl (zT cI cB cZ) zN [] [.int (zI v)] (zI (bZ (v = 0 ∨ v = 1))) := by
  refine MetR.intro (cc := cX5_isSize) (maxL := 1) (ret := (some .boolean)) (by decide) rfl (Nat.le_of_ble_eq_true rfl) ?_
  intro p e s m args below meth c hx hb hr hlocks hml hts hown hP hK hE ls hl
  have hown : s.vm.findClass RX5 = some m.cls := hown
  have hl : lv_has ls 1 [(0, .int (zI v))] := hl
  generalize hRM : ({ frames := 0, cells := 0, slots := 0, locals := 0 } : Room) = RM
  generalize hQQ : MQ below (vp_Si (fun r => r = zI (bZ (v = 0 ∨ v = 1)))) args s 0 0 (fun _ => False) = QQ
  refine lv_iload_n hx hb dX5_isSize_0 rfl (lv_at hl 0 rfl) ?_
  refine zv_if_eq (tgt := 9) hx hb (by omega) dX5_isSize_1 (by decide) (fun c_1 => ?_) (fun c_1 => ?_)
  · refine zv_iconst hx hb dX5_isSize_9 ?_
    refine lv_goto (tgt := 14) hx hb dX5_isSize_10 (by decide) ?_
    rw [← hQQ]
    exact zr_zret hx hb hr hlocks (by first | exact z_nar_bool | rfl) (congrArg zI (show 1 = bZ (v = 0 ∨ v = 1) from by first | rfl | omega | exact (bZ_t (by omega)).symm | exact (bZ_f (by omega)).symm)) dX5_isSize_14
  · refine lv_iload_n hx hb dX5_isSize_4 rfl (lv_at hl 0 rfl) ?_
    refine zv_iconst hx hb dX5_isSize_5 ?_
    refine zv_icmp_ne (tgt := 13) hx hb (by omega) (by omega) dX5_isSize_6 (by decide) (fun c_6 => ?_) (fun c_6 => ?_)
    · refine zv_iconst hx hb dX5_isSize_13 ?_
      rw [← hQQ]
      exact zr_zret hx hb hr hlocks (by first | exact z_nar_bool | rfl) (congrArg zI (show 0 = bZ (v = 0 ∨ v = 1) from by first | rfl | omega | exact (bZ_t (by omega)).symm | exact (bZ_f (by omega)).symm)) dX5_isSize_14
    · refine zv_iconst hx hb dX5_isSize_9 ?_
      refine lv_goto (tgt := 14) hx hb dX5_isSize_10 (by decide) ?_
      rw [← hQQ]
      exact zr_zret hx hb hr hlocks (by first | exact z_nar_bool | rfl) (congrArg zI (show 1 = bZ (v = 0 ∨ v = 1) from by first | rfl | omega | exact (bZ_t (by omega)).symm | exact (bZ_f (by omega)).symm)) dX5_isSize_14
set_option maxHeartbeats 4000000 in
set_option maxRecDepth 100000 in
theorem c_X5_lodgedOf (l : Launch) (dC : Nat → ClassId) (dI : Nat → Nat → Nat) (cI cB cZ : ClassId) (v : Int) (hv : -2147483648 ≤ v ∧ v ≤ 2147483647) : MetR l yX5_lodgedOf wsX5_lodgedOf ({ frames := 0, cells := 0, slots := 0, locals := 0 }) (dC, dI) vwCl (zT cI cB cZ) zN [] [.int (zI v)] (zI (lodO v)) := by
  refine MetR.intro (cc := cX5_lodgedOf) (maxL := 1) (ret := (some .int)) (by decide) rfl (Nat.le_of_ble_eq_true rfl) ?_
  intro p e s m args below meth c hx hb hr hlocks hml hts hown hP hK hE ls hl
  have hown : s.vm.findClass RX5 = some m.cls := hown
  have hl : lv_has ls 1 [(0, .int (zI v))] := hl
  generalize hRM : ({ frames := 0, cells := 0, slots := 0, locals := 0 } : Room) = RM
  generalize hQQ : MQ below (vp_Si (fun r => r = zI (lodO v))) args s 0 0 (fun _ => False) = QQ
  refine lv_iload_n hx hb dX5_lodgedOf_0 rfl (lv_at hl 0 rfl) ?_
  refine zv_bipush hx hb dX5_lodgedOf_1 (by decide +kernel) ?_
  refine zv_icmp_ne (tgt := 11) hx hb (by omega) (by omega) dX5_lodgedOf_3 (by decide) (fun c_3 => ?_) (fun c_3 => ?_)
  · refine lv_iload_n hx hb dX5_lodgedOf_11 rfl (lv_at hl 0 rfl) ?_
    rw [← hQQ]
    exact zr_iret hx hb hr hlocks (congrArg zI (show v = lodO v from by unfold lodO; split <;> omega)) dX5_lodgedOf_12
  · refine zv_bipush hx hb dX5_lodgedOf_6 (by decide +kernel) ?_
    refine lv_goto (tgt := 12) hx hb dX5_lodgedOf_8 (by decide) ?_
    rw [← hQQ]
    exact zr_iret hx hb hr hlocks (congrArg zI (show (-9) = lodO v from by unfold lodO; split <;> omega)) dX5_lodgedOf_12
set_option maxHeartbeats 4000000 in
set_option maxRecDepth 100000 in
theorem c_X5_isRow (l : Launch) (dC : Nat → ClassId) (dI : Nat → Nat → Nat) (cI cB cZ : ClassId) (v : Int) (hv : -2147483648 ≤ v ∧ v ≤ 2147483647) : MetR l yX5_isRow wsX5_isRow ({ frames := 0, cells := 0, slots := 0, locals := 0 }) (dC, dI) vwCl (zT cI cB cZ) zN [] [.int (zI v)] (zI (bZ (rowB v = true))) := by
  refine MetR.intro (cc := cX5_isRow) (maxL := 4) (ret := (some .boolean)) (by decide) rfl (Nat.le_of_ble_eq_true rfl) ?_
  intro p e s m args below meth c hx hb hr hlocks hml hts hown hP hK hE ls hl
  have hown : s.vm.findClass RX5 = some m.cls := hown
  have hl : lv_has ls 4 [(0, .int (zI v))] := hl
  generalize hRM : ({ frames := 0, cells := 0, slots := 0, locals := 0 } : Room) = RM
  generalize hQQ : MQ below (vp_Si (fun r => r = zI (bZ (rowB v = true)))) args s 0 0 (fun _ => False) = QQ
  have w_0 := hts (.constant RX5 213 (999999999)) (by decide +kernel)
  have cut16 : ∀ (nM : Nat) (rest : Int) (i : Int) (pr : List Int),  ((9 - i).toNat) < nM → (0 ≤ i ∧ i ≤ 9) → (0 ≤ rest ∧ rest ≤ 999999999) → (ds 10 v = pr ++ ds (10 - i).toNat rest) → ((pr.length : Int) = i) → (pr.all (fun d => d == 1 || d == 2) = true) → (0 ≤ v ∧ v ≤ 999999999) → ∀ ls : Array Slot, lv_has ls 4 [(0, .int (zI v)), (1, .int (zI rest)), (2, .int (zI i))] → W p l e RM s m args below meth c s.heap [] 0 0 QQ (F0 m 16 ls []) := by
    intro nM
    induction nM with
    | zero => intro rest i pr hmu; exact absurd hmu (Nat.not_lt_zero _)
    | succ nM ih16 =>
      intro rest i pr hmu hi hre hd hl9 ha hv9 ls hl
      refine lv_iload_n hx hb dX5_isRow_16 rfl (lv_at hl 2 rfl) ?_
      refine zv_bipush hx hb dX5_isRow_17 (by decide +kernel) ?_
      refine zv_icmp_ge (tgt := 54) hx hb (by omega) (by omega) dX5_isRow_19 (by decide) (fun c_19 => ?_) (fun c_19 => ?_)
      · refine zv_iconst hx hb dX5_isRow_54 ?_
        rw [← hQQ]
        exact zr_zret hx hb hr hlocks (by first | exact z_nar_bool | rfl) (congrArg zI (show 1 = bZ (rowB v = true) from by refine (bZ_t (rowB_intro hv9 ?_)).symm; have h9 := ds_len9 hv9; rw [hd, List.length_append] at h9; rw [hd]; first | (rw [ds_nil (show rest ≤ 0 by omega)]; simpa using ha) | (rw [List.eq_nil_of_length_eq_zero (show (ds (10 - i).toNat rest).length = 0 by omega)]; simpa using ha))) dX5_isRow_55
      · refine lv_iload_n hx hb dX5_isRow_22 rfl (lv_at hl 1 rfl) ?_
        refine zv_if_le (tgt := 54) hx hb (by omega) dX5_isRow_23 (by decide) (fun c_23 => ?_) (fun c_23 => ?_)
        · refine zv_iconst hx hb dX5_isRow_54 ?_
          rw [← hQQ]
          exact zr_zret hx hb hr hlocks (by first | exact z_nar_bool | rfl) (congrArg zI (show 1 = bZ (rowB v = true) from by refine (bZ_t (rowB_intro hv9 ?_)).symm; have h9 := ds_len9 hv9; rw [hd, List.length_append] at h9; rw [hd]; first | (rw [ds_nil (show rest ≤ 0 by omega)]; simpa using ha) | (rw [List.eq_nil_of_length_eq_zero (show (ds (10 - i).toNat rest).length = 0 by omega)]; simpa using ha))) dX5_isRow_55
        · have hd2 := ds_step (f := (9 - i).toNat) (show 0 < rest by omega)
          rw [show (10 - i).toNat = (9 - i).toNat + 1 by omega, hd2] at hd
          refine lv_iload_n hx hb dX5_isRow_26 rfl (lv_at hl 1 rfl) ?_
          refine zv_bipush hx hb dX5_isRow_27 (by decide +kernel) ?_
          refine zv_irem hx hb (by omega) dX5_isRow_29 ?_
          refine lv_istore_n (lv' := [(3, .int (zI (rest % 10))), (0, .int (zI v)), (1, .int (zI rest)), (2, .int (zI i))]) hx hb dX5_isRow_30 rfl hl (by decide) rfl (fun ls hl => ?_)
          refine lv_iload_n hx hb dX5_isRow_31 rfl (lv_at hl 0 rfl) ?_
          refine zv_iconst hx hb dX5_isRow_32 ?_
          refine zv_icmp_eq (tgt := 43) hx hb (by omega) (by omega) dX5_isRow_33 (by decide) (fun c_33 => ?_) (fun c_33 => ?_)
          · refine lv_iload_n hx hb dX5_isRow_43 rfl (lv_at hl 2 rfl) ?_
            refine zv_bipush hx hb dX5_isRow_44 (by decide +kernel) ?_
            refine zv_idiv hx hb (by omega) dX5_isRow_46 ?_
            refine lv_istore_n (lv' := [(1, .int (zI (rest / 10))), (3, .int (zI (rest % 10))), (0, .int (zI v)), (2, .int (zI i))]) hx hb dX5_isRow_47 rfl hl (by decide) rfl (fun ls hl => ?_)
            refine zv_iinc (k := 3) (a := i) (n := 1) (lv' := [(2, .int (zI (i + 1))), (1, .int (zI (rest / 10))), (3, .int (zI (rest % 10))), (0, .int (zI v))]) hx hb dX5_isRow_48 hl rfl (by decide) rfl (fun ls hl => ?_)
            refine lv_goto (tgt := 16) hx hb dX5_isRow_51 (by decide) ?_
            exact ih16 (rest / 10) (i + 1) (pr ++ [rest % 10]) (by omega) (by omega) (by omega) (by rw [hd, show (10 - (i + 1)).toNat = (9 - i).toNat by omega]; simp) (by simp; omega) (by simp [List.all_append] at ha ⊢; exact ⟨ha, by omega⟩) (by omega) _ (lv_sub hl [3, 1, 0] rfl)
          · refine lv_iload_n hx hb dX5_isRow_36 rfl (lv_at hl 0 rfl) ?_
            refine zv_iconst hx hb dX5_isRow_37 ?_
            refine zv_icmp_eq (tgt := 43) hx hb (by omega) (by omega) dX5_isRow_38 (by decide) (fun c_38 => ?_) (fun c_38 => ?_)
            · refine lv_iload_n hx hb dX5_isRow_43 rfl (lv_at hl 2 rfl) ?_
              refine zv_bipush hx hb dX5_isRow_44 (by decide +kernel) ?_
              refine zv_idiv hx hb (by omega) dX5_isRow_46 ?_
              refine lv_istore_n (lv' := [(1, .int (zI (rest / 10))), (3, .int (zI (rest % 10))), (0, .int (zI v)), (2, .int (zI i))]) hx hb dX5_isRow_47 rfl hl (by decide) rfl (fun ls hl => ?_)
              refine zv_iinc (k := 3) (a := i) (n := 1) (lv' := [(2, .int (zI (i + 1))), (1, .int (zI (rest / 10))), (3, .int (zI (rest % 10))), (0, .int (zI v))]) hx hb dX5_isRow_48 hl rfl (by decide) rfl (fun ls hl => ?_)
              refine lv_goto (tgt := 16) hx hb dX5_isRow_51 (by decide) ?_
              exact ih16 (rest / 10) (i + 1) (pr ++ [rest % 10]) (by omega) (by omega) (by omega) (by rw [hd, show (10 - (i + 1)).toNat = (9 - i).toNat by omega]; simp) (by simp; omega) (by simp [List.all_append] at ha ⊢; exact ⟨ha, by omega⟩) (by omega) _ (lv_sub hl [3, 1, 0] rfl)
            · refine zv_iconst hx hb dX5_isRow_41 ?_
              rw [← hQQ]
              exact zr_zret hx hb hr hlocks (by first | exact z_nar_bool | rfl) (congrArg zI (show 0 = bZ (rowB v = true) from by exact (bZ_f (fun z => by have := rowB_mem z (rest % 10) (by rw [hd]; simp); omega)).symm)) dX5_isRow_42
  refine lv_iload_n hx hb dX5_isRow_0 rfl (lv_at hl 0 rfl) ?_
  refine zv_if_lt (tgt := 10) hx hb (by omega) dX5_isRow_1 (by decide) (fun c_1 => ?_) (fun c_1 => ?_)
  · refine zv_iconst hx hb dX5_isRow_10 ?_
    rw [← hQQ]
    exact zr_zret hx hb hr hlocks (by first | exact z_nar_bool | rfl) (congrArg zI (show 0 = bZ (rowB v = true) from by exact (bZ_f (fun z => by have := rowB_rng z; omega)).symm)) dX5_isRow_11
  · refine lv_iload_n hx hb dX5_isRow_4 rfl (lv_at hl 0 rfl) ?_
    refine zv_ldc (n := 999999999) hx hb hown w_0 (by decide +kernel) dX5_isRow_5 ?_
    refine zv_icmp_le (tgt := 12) hx hb (by omega) (by omega) dX5_isRow_7 (by decide) (fun c_7 => ?_) (fun c_7 => ?_)
    · refine lv_iload_n hx hb dX5_isRow_12 rfl (lv_at hl 0 rfl) ?_
      refine lv_istore_n (lv' := [(1, .int (zI v)), (0, .int (zI v))]) hx hb dX5_isRow_13 rfl hl (by decide) rfl (fun ls hl => ?_)
      refine zv_iconst hx hb dX5_isRow_14 ?_
      refine lv_istore_n (lv' := [(2, .int (zI 0)), (1, .int (zI v)), (0, .int (zI v))]) hx hb dX5_isRow_15 rfl hl (by decide) rfl (fun ls hl => ?_)
      exact cut16 _ v 0 ([]) (Nat.lt_succ_self _) (by omega) (by omega) (by rfl) (by rfl) (by rfl) (by omega) _ (lv_sub hl [2, 1, 0] rfl)
    · refine zv_iconst hx hb dX5_isRow_10 ?_
      rw [← hQQ]
      exact zr_zret hx hb hr hlocks (by first | exact z_nar_bool | rfl) (congrArg zI (show 0 = bZ (rowB v = true) from by exact (bZ_f (fun z => by have := rowB_rng z; omega)).symm)) dX5_isRow_11
set_option maxHeartbeats 4000000 in
set_option maxRecDepth 100000 in
theorem c_X5_figures (l : Launch) (dC : Nat → ClassId) (dI : Nat → Nat → Nat) (cI cB cZ : ClassId) (v : Int) (hv : 0 ≤ v ∧ v ≤ 2147483647) : MetR l yX5_figures wsX5_figures ({ frames := 0, cells := 0, slots := 0, locals := 0 }) (dC, dI) vwCl (zT cI cB cZ) zN [] [.int (zI v)] (zI (((ds 10 v).length : Int))) := by
  refine MetR.intro (cc := cX5_figures) (maxL := 4) (ret := (some .int)) (by decide) rfl (Nat.le_of_ble_eq_true rfl) ?_
  intro p e s m args below meth c hx hb hr hlocks hml hts hown hP hK hE ls hl
  have hown : s.vm.findClass RX5 = some m.cls := hown
  have hl : lv_has ls 4 [(0, .int (zI v))] := hl
  generalize hRM : ({ frames := 0, cells := 0, slots := 0, locals := 0 } : Room) = RM
  generalize hQQ : MQ below (vp_Si (fun r => r = zI (((ds 10 v).length : Int)))) args s 0 0 (fun _ => False) = QQ
  have cut6 : ∀ (nM : Nat) (rest : Int) (i : Int) (pr : List Int),  ((10 - i).toNat) < nM → (0 ≤ i ∧ i ≤ 10) → (0 ≤ rest ∧ rest ≤ 2147483647) → (ds 10 v = pr ++ ds (10 - i).toNat rest) → ((pr.length : Int) = i) → ∀ ls : Array Slot, lv_has ls 4 [(0, .int (zI v)), (1, .int (zI rest)), (2, .int (zI i)), (3, .int (zI i))] → W p l e RM s m args below meth c s.heap [] 0 0 QQ (F0 m 6 ls []) := by
    intro nM
    induction nM with
    | zero => intro rest i pr hmu; exact absurd hmu (Nat.not_lt_zero _)
    | succ nM ih6 =>
      intro rest i pr hmu hi hre hd hl9 ls hl
      refine lv_iload_n hx hb dX5_figures_6 rfl (lv_at hl 3 rfl) ?_
      refine zv_bipush hx hb dX5_figures_7 (by decide +kernel) ?_
      refine zv_icmp_ge (tgt := 30) hx hb (by omega) (by omega) dX5_figures_9 (by decide) (fun c_9 => ?_) (fun c_9 => ?_)
      · refine lv_iload_n hx hb dX5_figures_30 rfl (lv_at hl 2 rfl) ?_
        rw [← hQQ]
        exact zr_iret hx hb hr hlocks (congrArg zI (show i = ((ds 10 v).length : Int) from by rw [hd, List.length_append]; first | (rw [ds_nil (show rest ≤ 0 by omega)]; simp; omega) | (rw [show (10 - i).toNat = 0 by omega]; simp [ds]; omega))) dX5_figures_31
      · refine lv_iload_n hx hb dX5_figures_12 rfl (lv_at hl 1 rfl) ?_
        refine zv_if_le (tgt := 30) hx hb (by omega) dX5_figures_13 (by decide) (fun c_13 => ?_) (fun c_13 => ?_)
        · refine lv_iload_n hx hb dX5_figures_30 rfl (lv_at hl 2 rfl) ?_
          rw [← hQQ]
          exact zr_iret hx hb hr hlocks (congrArg zI (show i = ((ds 10 v).length : Int) from by rw [hd, List.length_append]; first | (rw [ds_nil (show rest ≤ 0 by omega)]; simp; omega) | (rw [show (10 - i).toNat = 0 by omega]; simp [ds]; omega))) dX5_figures_31
        · have hd2 := ds_step (f := (9 - i).toNat) (show 0 < rest by omega)
          rw [show (10 - i).toNat = (9 - i).toNat + 1 by omega, hd2] at hd
          refine lv_iload_n hx hb dX5_figures_16 rfl (lv_at hl 1 rfl) ?_
          refine zv_bipush hx hb dX5_figures_17 (by decide +kernel) ?_
          refine zv_idiv hx hb (by omega) dX5_figures_19 ?_
          refine lv_istore_n (lv' := [(1, .int (zI (rest / 10))), (0, .int (zI v)), (2, .int (zI i)), (3, .int (zI i))]) hx hb dX5_figures_20 rfl hl (by decide) rfl (fun ls hl => ?_)
          refine zv_iinc (k := 2) (a := i) (n := 1) (lv' := [(2, .int (zI (i + 1))), (1, .int (zI (rest / 10))), (0, .int (zI v)), (3, .int (zI i))]) hx hb dX5_figures_21 hl rfl (by decide) rfl (fun ls hl => ?_)
          refine zv_iinc (k := 3) (a := i) (n := 1) (lv' := [(3, .int (zI (i + 1))), (2, .int (zI (i + 1))), (1, .int (zI (rest / 10))), (0, .int (zI v))]) hx hb dX5_figures_24 hl rfl (by decide) rfl (fun ls hl => ?_)
          refine lv_goto (tgt := 6) hx hb dX5_figures_27 (by decide) ?_
          exact ih6 (rest / 10) (i + 1) (pr ++ [rest % 10]) (by omega) (by omega) (by omega) (by rw [hd, show (10 - (i + 1)).toNat = (9 - i).toNat by omega]; simp) (by simp; omega) _ (lv_sub hl [3, 2, 1, 0] rfl)
  refine lv_iload_n hx hb dX5_figures_0 rfl (lv_at hl 0 rfl) ?_
  refine lv_istore_n (lv' := [(1, .int (zI v)), (0, .int (zI v))]) hx hb dX5_figures_1 rfl hl (by decide) rfl (fun ls hl => ?_)
  refine zv_iconst hx hb dX5_figures_2 ?_
  refine lv_istore_n (lv' := [(2, .int (zI 0)), (1, .int (zI v)), (0, .int (zI v))]) hx hb dX5_figures_3 rfl hl (by decide) rfl (fun ls hl => ?_)
  refine zv_iconst hx hb dX5_figures_4 ?_
  refine lv_istore_n (lv' := [(3, .int (zI 0)), (2, .int (zI 0)), (1, .int (zI v)), (0, .int (zI v))]) hx hb dX5_figures_5 rfl hl (by decide) rfl (fun ls hl => ?_)
  exact cut6 _ v 0 ([]) (Nat.lt_succ_self _) (by omega) (by omega) (by rfl) (by rfl) _ (lv_sub hl [3, 2, 1, 0] rfl)
set_option maxHeartbeats 4000000 in
set_option maxRecDepth 100000 in
theorem c_X5_turned (l : Launch) (dC : Nat → ClassId) (dI : Nat → Nat → Nat) (cI cB cZ : ClassId) (v : Int) (hv : 0 ≤ v ∧ v ≤ 2147483647) : MetR l yX5_turned wsX5_turned ({ frames := 0, cells := 0, slots := 0, locals := 0 }) (dC, dI) vwCl (zT cI cB cZ) zN [] [.int (zI v)] (zI (vl (rw v))) := by
  refine MetR.intro (cc := cX5_turned) (maxL := 4) (ret := (some .int)) (by decide) rfl (Nat.le_of_ble_eq_true rfl) ?_
  intro p e s m args below meth c hx hb hr hlocks hml hts hown hP hK hE ls hl
  have hown : s.vm.findClass RX5 = some m.cls := hown
  have hl : lv_has ls 4 [(0, .int (zI v))] := hl
  generalize hRM : ({ frames := 0, cells := 0, slots := 0, locals := 0 } : Room) = RM
  generalize hQQ : MQ below (vp_Si (fun r => r = zI (vl (rw v)))) args s 0 0 (fun _ => False) = QQ
  have cut6 : ∀ (nM : Nat) (rest : Int) (i : Int) (acc : Int) (pr : List Int),  ((10 - i).toNat) < nM → (0 ≤ i ∧ i ≤ 10) → (0 ≤ rest ∧ rest ≤ 2147483647) → (rw v = (ds (10 - i).toNat rest).reverse ++ pr) → (acc = vl pr) → ∀ ls : Array Slot, lv_has ls 4 [(0, .int (zI v)), (1, .int (zI rest)), (2, .int (zI acc)), (3, .int (zI i))] → W p l e RM s m args below meth c s.heap [] 0 0 QQ (F0 m 6 ls []) := by
    intro nM
    induction nM with
    | zero => intro rest i acc pr hmu; exact absurd hmu (Nat.not_lt_zero _)
    | succ nM ih6 =>
      intro rest i acc pr hmu hi hre hd hac ls hl
      refine lv_iload_n hx hb dX5_turned_6 rfl (lv_at hl 3 rfl) ?_
      refine zv_bipush hx hb dX5_turned_7 (by decide +kernel) ?_
      refine zv_icmp_ge (tgt := 37) hx hb (by omega) (by omega) dX5_turned_9 (by decide) (fun c_9 => ?_) (fun c_9 => ?_)
      · refine lv_iload_n hx hb dX5_turned_37 rfl (lv_at hl 2 rfl) ?_
        rw [← hQQ]
        exact zr_iret hx hb hr hlocks (congrArg zI (show acc = vl (rw v) from by rw [hd, hac]; first | (rw [ds_nil (show rest ≤ 0 by omega)]; simp) | (rw [show (10 - i).toNat = 0 by omega]; simp [ds]))) dX5_turned_38
      · refine lv_iload_n hx hb dX5_turned_12 rfl (lv_at hl 1 rfl) ?_
        refine zv_if_le (tgt := 37) hx hb (by omega) dX5_turned_13 (by decide) (fun c_13 => ?_) (fun c_13 => ?_)
        · refine lv_iload_n hx hb dX5_turned_37 rfl (lv_at hl 2 rfl) ?_
          rw [← hQQ]
          exact zr_iret hx hb hr hlocks (congrArg zI (show acc = vl (rw v) from by rw [hd, hac]; first | (rw [ds_nil (show rest ≤ 0 by omega)]; simp) | (rw [show (10 - i).toNat = 0 by omega]; simp [ds]))) dX5_turned_38
        · have hd2 := ds_step (f := (9 - i).toNat) (show 0 < rest by omega)
          rw [show (10 - i).toNat = (9 - i).toNat + 1 by omega, hd2] at hd
          refine lv_iload_n hx hb dX5_turned_16 rfl (lv_at hl 2 rfl) ?_
          refine zv_bipush hx hb dX5_turned_17 (by decide +kernel) ?_
          refine zv_imul hx hb dX5_turned_19 ?_
          refine lv_iload_n hx hb dX5_turned_20 rfl (lv_at hl 1 rfl) ?_
          refine zv_bipush hx hb dX5_turned_21 (by decide +kernel) ?_
          refine zv_irem hx hb (by omega) dX5_turned_23 ?_
          refine zv_iadd hx hb dX5_turned_24 ?_
          refine lv_istore_n (lv' := [(2, .int (zI ((acc * 10) + (rest % 10)))), (0, .int (zI v)), (1, .int (zI rest)), (3, .int (zI i))]) hx hb dX5_turned_25 rfl hl (by decide) rfl (fun ls hl => ?_)
          refine lv_iload_n hx hb dX5_turned_26 rfl (lv_at hl 2 rfl) ?_
          refine zv_bipush hx hb dX5_turned_27 (by decide +kernel) ?_
          refine zv_idiv hx hb (by omega) dX5_turned_29 ?_
          refine lv_istore_n (lv' := [(1, .int (zI (rest / 10))), (2, .int (zI ((acc * 10) + (rest % 10)))), (0, .int (zI v)), (3, .int (zI i))]) hx hb dX5_turned_30 rfl hl (by decide) rfl (fun ls hl => ?_)
          refine zv_iinc (k := 3) (a := i) (n := 1) (lv' := [(3, .int (zI (i + 1))), (1, .int (zI (rest / 10))), (2, .int (zI ((acc * 10) + (rest % 10)))), (0, .int (zI v))]) hx hb dX5_turned_31 hl rfl (by decide) rfl (fun ls hl => ?_)
          refine lv_goto (tgt := 6) hx hb dX5_turned_34 (by decide) ?_
          exact ih6 (rest / 10) (i + 1) ((acc * 10) + (rest % 10)) (rest % 10 :: pr) (by omega) (by omega) (by omega) (by rw [hd, show (10 - (i + 1)).toNat = (9 - i).toNat by omega]; simp) (by rw [hac]; show _ = rest % 10 + 10 * vl pr; omega) _ (lv_sub hl [3, 1, 2, 0] rfl)
  refine lv_iload_n hx hb dX5_turned_0 rfl (lv_at hl 0 rfl) ?_
  refine lv_istore_n (lv' := [(1, .int (zI v)), (0, .int (zI v))]) hx hb dX5_turned_1 rfl hl (by decide) rfl (fun ls hl => ?_)
  refine zv_iconst hx hb dX5_turned_2 ?_
  refine lv_istore_n (lv' := [(2, .int (zI 0)), (1, .int (zI v)), (0, .int (zI v))]) hx hb dX5_turned_3 rfl hl (by decide) rfl (fun ls hl => ?_)
  refine zv_iconst hx hb dX5_turned_4 ?_
  refine lv_istore_n (lv' := [(3, .int (zI 0)), (2, .int (zI 0)), (1, .int (zI v)), (0, .int (zI v))]) hx hb dX5_turned_5 rfl hl (by decide) rfl (fun ls hl => ?_)
  exact cut6 _ v 0 0 ([]) (Nat.lt_succ_self _) (by omega) (by omega) (by simp [rw]) (by rfl) _ (lv_sub hl [3, 2, 1, 0] rfl)
set_option maxHeartbeats 4000000 in
set_option maxRecDepth 100000 in
theorem c_X5_areLandings (l : Launch) (dC : Nat → ClassId) (dI : Nat → Nat → Nat) (cI cB cZ : ClassId) (w0 : Nat) (x0 : Nat) (h0 : Nat) (g0 : Nat) (p0 : Nat) (q0 : Nat) (r0 : Nat) (fk : Int) (sk : Int) (t0 : Nat) (b1 : Nat) (b2 : Nat) (tr : Int64) (h1 : Nat) (h2 : Nat) (h3 : Nat) (h4 : Nat) (n : Int) (so : Int → Int) (le : Int → Int) (ri : Int → Int) (ti : Int → Int) (v : Int) (hh : hOk n so le ri ti) (hv : -2147483648 ≤ v ∧ v ≤ 2147483647) : MetR l yX5_areLandings wsX5_areLandings ({ frames := 2, cells := 0, slots := 0, locals := 42 }) (dC, dI) vwCl (zT cI cB cZ) zN [(w0, .inr (4, [.ref x0, .ref h0, .ref g0, .ref p0, .ref q0, .ref r0, .int (zI fk), .int (zI sk), .ref t0, .ref b1, .ref b2, .long tr])), (h0, .inr (0, [.int (zI n), .ref h1, .ref h2, .ref h3, .ref h4])), (h1, .inl (cI, 9, .inl (zA so))), (h2, .inl (cI, 9, .inl (zA le))), (h3, .inl (cI, 9, .inl (zA ri))), (h4, .inl (cI, 9, .inl (zA ti)))] [.ref w0, .int (zI v)] (zI (bZ (lanB n so v = true))) := by
  refine MetR.intro (cc := cX5_areLandings) (maxL := 4) (ret := (some .boolean)) (by decide) rfl (Nat.le_of_ble_eq_true rfl) ?_
  intro p e s m args below meth c hx hb hr hlocks hml hts hown hP hK hE ls hl
  have hown : s.vm.findClass RX5 = some m.cls := hown
  have hl : lv_has ls 4 [(0, .ref w0), (1, .int (zI v))] := hl
  generalize hRM : ({ frames := 2, cells := 0, slots := 0, locals := 42 } : Room) = RM
  generalize hQQ : MQ below (vp_Si (fun r => r = zI (bZ (lanB n so v = true)))) args s 0 0 (fun _ => False) = QQ
  have in_X5 : ∀ w ∈ wsX50, w ∈ wsX5_areLandings := by decide +kernel
  have w_0 := hts (.fieldLink RX5 19 "WallMarbles" "built" "LWallMarbles$House;") (by decide +kernel)
  have cut17 : ∀ (nM : Nat) (rest : Int) (i : Int) (pr : List Int),  ((10 - i).toNat) < nM → (0 ≤ i ∧ i ≤ 10) → (0 ≤ rest ∧ rest ≤ 9999) → (ds 10 v = pr ++ ds (10 - i).toNat rest) → (pr.all (lanD n so) = true) → (0 ≤ v ∧ v ≤ 9999) → ∀ ls : Array Slot, lv_has ls 4 [(0, .ref w0), (2, .int (zI rest)), (3, .int (zI i))] → W p l e RM s m args below meth c s.heap [] 0 0 QQ (F0 m 17 ls []) := by
    intro nM
    induction nM with
    | zero => intro rest i pr hmu; exact absurd hmu (Nat.not_lt_zero _)
    | succ nM ih17 =>
      intro rest i pr hmu hi hre hd ha hv9 ls hl
      refine lv_iload_n hx hb dX5_areLandings_17 rfl (lv_at hl 2 rfl) ?_
      refine zv_bipush hx hb dX5_areLandings_18 (by decide +kernel) ?_
      refine zv_icmp_ge (tgt := 56) hx hb (by omega) (by omega) dX5_areLandings_20 (by decide) (fun c_20 => ?_) (fun c_20 => ?_)
      · refine zv_iconst hx hb dX5_areLandings_56 ?_
        rw [← hQQ]
        exact zr_zret hx hb hr hlocks (by first | exact z_nar_bool | rfl) (congrArg zI (show 1 = bZ (lanB n so v = true) from by refine (bZ_t (lanB_intro hv9 ?_)).symm; rw [hd]; first | (rw [ds_nil (show rest ≤ 0 by omega)]; simpa using ha) | (rw [show (10 - i).toNat = 0 by omega]; simpa [ds] using ha))) dX5_areLandings_57
      · refine lv_iload_n hx hb dX5_areLandings_23 rfl (lv_at hl 1 rfl) ?_
        refine zv_if_le (tgt := 56) hx hb (by omega) dX5_areLandings_24 (by decide) (fun c_24 => ?_) (fun c_24 => ?_)
        · refine zv_iconst hx hb dX5_areLandings_56 ?_
          rw [← hQQ]
          exact zr_zret hx hb hr hlocks (by first | exact z_nar_bool | rfl) (congrArg zI (show 1 = bZ (lanB n so v = true) from by refine (bZ_t (lanB_intro hv9 ?_)).symm; rw [hd]; first | (rw [ds_nil (show rest ≤ 0 by omega)]; simpa using ha) | (rw [show (10 - i).toNat = 0 by omega]; simpa [ds] using ha))) dX5_areLandings_57
        · have hd2 := ds_step (f := (9 - i).toNat) (show 0 < rest by omega)
          rw [show (10 - i).toNat = (9 - i).toNat + 1 by omega, hd2] at hd
          refine lv_aload_n hx hb dX5_areLandings_27 rfl (lv_at hl 0 rfl) ?_
          refine va_get (D := (dC, dI)) (ci := 4) (v := .ref h0) (C := RX5) (T := TX5) (N := 12) hx hb hts in_X5 hown hK hP 0 rfl rfl 1 (by decide) w_0 (fun _ h9 => h9) rfl dX5_areLandings_28 ?_
          refine lv_iload_n hx hb dX5_areLandings_31 rfl (lv_at hl 1 rfl) ?_
          refine zv_bipush hx hb dX5_areLandings_32 (by decide +kernel) ?_
          refine zv_irem hx hb (by omega) dX5_areLandings_34 ?_
          refine zv_iconst hx hb dX5_areLandings_35 ?_
          refine zv_isub hx hb dX5_areLandings_36 ?_
          refine zv_callRV (As := [.int (zI ((rest % 10) - 1))]) (rest := []) ⟨hx, hb, hml, hown, hts⟩ (c_X0_isLanding l dC dI cI cB cZ h0 h1 h2 h3 h4 n so le ri ti ((rest % 10) - 1) (by exact hh) (by omega)) (cwV 1 hts gX5_areLandings_X0_isLanding rfl rfl rfl (by decide +kernel) ⟨by rw [← hRM]; first | decide | (dsimp only; omega), by rw [← hRM]; first | decide | (dsimp only; omega)⟩) hP hK [1, 2, 3, 4, 5] rfl [0, 1, 2] rfl zN_bl (zN_go hE) (q0 := 0) rfl rfl rfl rfl hl.1 rfl (Nat.le_of_ble_eq_true rfl) dX5_areLandings_37 ⟨Nat.zero_le _, Nat.zero_le _⟩ ?_
          refine zv_ifne_b (tgt := 45) hx hb dX5_areLandings_40 (by decide) (fun c_40 => ?_) (fun c_40 => ?_)
          · refine lv_iload_n hx hb dX5_areLandings_45 rfl (lv_at hl 1 rfl) ?_
            refine zv_bipush hx hb dX5_areLandings_46 (by decide +kernel) ?_
            refine zv_idiv hx hb (by omega) dX5_areLandings_48 ?_
            refine lv_istore_n (lv' := [(2, .int (zI (rest / 10))), (0, .ref w0), (3, .int (zI i))]) hx hb dX5_areLandings_49 rfl hl (by decide) rfl (fun ls hl => ?_)
            refine zv_iinc (k := 2) (a := i) (n := 1) (lv' := [(3, .int (zI (i + 1))), (2, .int (zI (rest / 10))), (0, .ref w0)]) hx hb dX5_areLandings_50 hl rfl (by decide) rfl (fun ls hl => ?_)
            refine lv_goto (tgt := 17) hx hb dX5_areLandings_53 (by decide) ?_
            exact ih17 (rest / 10) (i + 1) (pr ++ [rest % 10]) (by omega) (by omega) (by omega) (by rw [hd, show (10 - (i + 1)).toNat = (9 - i).toNat by omega]; simp) (by rw [List.all_append, ha]; simp only [List.all_cons, List.all_nil, Bool.and_true, Bool.true_and]; exact decide_eq_true c_40) (by omega) _ (lv_sub hl [2, 1, 0] rfl)
          · refine zv_iconst hx hb dX5_areLandings_43 ?_
            rw [← hQQ]
            exact zr_zret hx hb hr hlocks (by first | exact z_nar_bool | rfl) (congrArg zI (show 0 = bZ (lanB n so v = true) from by exact (bZ_f (fun z => c_40 (by have := lanB_mem z (rest % 10) (by rw [hd]; simp); simpa [lanD] using this))).symm)) dX5_areLandings_44
  refine lv_iload_n hx hb dX5_areLandings_0 rfl (lv_at hl 1 rfl) ?_
  refine zv_if_lt (tgt := 11) hx hb (by omega) dX5_areLandings_1 (by decide) (fun c_1 => ?_) (fun c_1 => ?_)
  · refine zv_iconst hx hb dX5_areLandings_11 ?_
    rw [← hQQ]
    exact zr_zret hx hb hr hlocks (by first | exact z_nar_bool | rfl) (congrArg zI (show 0 = bZ (lanB n so v = true) from by exact (bZ_f (fun z => by have := lanB_rng z; omega)).symm)) dX5_areLandings_12
  · refine lv_iload_n hx hb dX5_areLandings_4 rfl (lv_at hl 1 rfl) ?_
    refine zv_sipush hx hb dX5_areLandings_5 (by decide +kernel) ?_
    refine zv_icmp_le (tgt := 13) hx hb (by omega) (by omega) dX5_areLandings_8 (by decide) (fun c_8 => ?_) (fun c_8 => ?_)
    · refine lv_iload_n hx hb dX5_areLandings_13 rfl (lv_at hl 1 rfl) ?_
      refine lv_istore_n (lv' := [(2, .int (zI v)), (0, .ref w0), (1, .int (zI v))]) hx hb dX5_areLandings_14 rfl hl (by decide) rfl (fun ls hl => ?_)
      refine zv_iconst hx hb dX5_areLandings_15 ?_
      refine lv_istore_n (lv' := [(3, .int (zI 0)), (2, .int (zI v)), (0, .ref w0), (1, .int (zI v))]) hx hb dX5_areLandings_16 rfl hl (by decide) rfl (fun ls hl => ?_)
      exact cut17 _ v 0 ([]) (Nat.lt_succ_self _) (by omega) (by omega) (by rfl) (by rfl) (by omega) _ (lv_sub hl [2, 1, 0] rfl)
    · refine zv_iconst hx hb dX5_areLandings_11 ?_
      rw [← hQQ]
      exact zr_zret hx hb hr hlocks (by first | exact z_nar_bool | rfl) (congrArg zI (show 0 = bZ (lanB n so v = true) from by exact (bZ_f (fun z => by have := lanB_rng z; omega)).symm)) dX5_areLandings_12
set_option maxHeartbeats 4000000 in
set_option maxRecDepth 100000 in
theorem c_X5_isReached (l : Launch) (dC : Nat → ClassId) (dI : Nat → Nat → Nat) (cI cB cZ : ClassId) (w0 : Nat) (x0 : Nat) (h0 : Nat) (g0 : Nat) (p0 : Nat) (q0 : Nat) (r0 : Nat) (fk : Int) (sk : Int) (t0 : Nat) (b1 : Nat) (b2 : Nat) (tr : Int64) (rc : Int → Int) (v : Int) (fo : Int) (hv : -2147483648 ≤ v ∧ v ≤ 2147483647) (hfo : 0 ≤ fo ∧ fo ≤ 200) (hrc : ∀ j : Int, 0 ≤ j → j < fo → -2147483648 ≤ rc j ∧ rc j ≤ 2147483647) : MetR l yX5_isReached wsX5_isReached ({ frames := 0, cells := 0, slots := 0, locals := 0 }) (dC, dI) vwCl (zT cI cB cZ) zN [(w0, .inr (4, [.ref x0, .ref h0, .ref g0, .ref p0, .ref q0, .ref r0, .int (zI fk), .int (zI sk), .ref t0, .ref b1, .ref b2, .long tr])), (b1, .inl (cI, 200, .inl (zA rc)))] [.ref w0, .int (zI v), .int (zI fo)] (zI (bZ (∃ j : Nat, j < fo.toNat ∧ rc (j : Int) = v))) := by
  refine MetR.intro (cc := cX5_isReached) (maxL := 4) (ret := (some .boolean)) (by decide) rfl (Nat.le_of_ble_eq_true rfl) ?_
  intro p e s m args below meth c hx hb hr hlocks hml hts hown hP hK hE ls hl
  have hown : s.vm.findClass RX5 = some m.cls := hown
  have hl : lv_has ls 4 [(0, .ref w0), (1, .int (zI v)), (2, .int (zI fo))] := hl
  generalize hRM : ({ frames := 0, cells := 0, slots := 0, locals := 0 } : Room) = RM
  generalize hQQ : MQ below (vp_Si (fun r => r = zI (bZ (∃ j : Nat, j < fo.toNat ∧ rc (j : Int) = v)))) args s 0 0 (fun _ => False) = QQ
  have in_X5 : ∀ w ∈ wsX50, w ∈ wsX5_isReached := by decide +kernel
  have w_0 := hts (.fieldLink RX5 46 "WallMarbles" "reached" "[I") (by decide +kernel)
  have cut2 : ∀ (nM : Nat) (i : Int),  ((fo - i).toNat) < nM → (0 ≤ i ∧ i ≤ fo) → (∀ j : Int, 0 ≤ j → j < i → rc j ≠ v) → ∀ ls : Array Slot, lv_has ls 4 [(0, .ref w0), (1, .int (zI v)), (2, .int (zI fo)), (3, .int (zI i))] → W p l e RM s m args below meth c s.heap [] 0 0 QQ (F0 m 2 ls []) := by
    intro nM
    induction nM with
    | zero => intro i hmu; exact absurd hmu (Nat.not_lt_zero _)
    | succ nM ih2 =>
      intro i hmu hi ha ls hl
      refine lv_iload_n hx hb dX5_isReached_2 rfl (lv_at hl 3 rfl) ?_
      refine lv_iload_n hx hb dX5_isReached_3 rfl (lv_at hl 2 rfl) ?_
      refine zv_icmp_ge (tgt := 32) hx hb (by omega) (by omega) dX5_isReached_4 (by decide) (fun c_4 => ?_) (fun c_4 => ?_)
      · refine zv_iconst hx hb dX5_isReached_32 ?_
        rw [← hQQ]
        exact zr_zret hx hb hr hlocks (by first | exact z_nar_bool | rfl) (congrArg zI (show 0 = bZ (∃ j : Nat, j < fo.toNat ∧ rc (j : Int) = v) from by exact (bZ_f (fun z => by obtain ⟨j, h1, h2⟩ := z; exact ha (j : Int) (by omega) (by omega) h2)).symm)) dX5_isReached_33
      · refine lv_iload_n hx hb dX5_isReached_7 rfl (lv_at hl 3 rfl) ?_
        refine zv_sipush hx hb dX5_isReached_8 (by decide +kernel) ?_
        refine zv_icmp_ge (tgt := 32) hx hb (by omega) (by omega) dX5_isReached_11 (by decide) (fun c_11 => ?_) (fun c_11 => ?_)
        · exfalso; omega
        · have z1 := hrc i (by omega) (by omega)
          refine lv_aload_n hx hb dX5_isReached_14 rfl (lv_at hl 0 rfl) ?_
          refine va_get (D := (dC, dI)) (ci := 4) (v := .ref b1) (C := RX5) (T := TX5) (N := 12) hx hb hts in_X5 hown hK hP 0 rfl rfl 9 (by decide) w_0 (fun _ h9 => h9) rfl dX5_isReached_15 ?_
          refine lv_iload_n hx hb dX5_isReached_18 rfl (lv_at hl 3 rfl) ?_
          refine zv_iald hx hb hK hP 1 0 rfl rfl (by omega) dX5_isReached_19 ?_
          refine lv_iload_n hx hb dX5_isReached_20 rfl (lv_at hl 1 rfl) ?_
          refine zv_icmp_ne (tgt := 26) hx hb (by omega) (by omega) dX5_isReached_21 (by decide) (fun c_21 => ?_) (fun c_21 => ?_)
          · refine zv_iinc (k := 3) (a := i) (n := 1) (lv' := [(3, .int (zI (i + 1))), (0, .ref w0), (1, .int (zI v)), (2, .int (zI fo))]) hx hb dX5_isReached_26 hl rfl (by decide) rfl (fun ls hl => ?_)
            refine lv_goto (tgt := 2) hx hb dX5_isReached_29 (by decide) ?_
            exact ih2 (i + 1) (by omega) (by omega) (by intro j h0 h1; by_cases hj : j = i; (rw [hj]; exact c_21); exact ha j h0 (by omega)) _ (lv_sub hl [1, 2, 3, 0] rfl)
          · refine zv_iconst hx hb dX5_isReached_24 ?_
            rw [← hQQ]
            exact zr_zret hx hb hr hlocks (by first | exact z_nar_bool | rfl) (congrArg zI (show 1 = bZ (∃ j : Nat, j < fo.toNat ∧ rc (j : Int) = v) from by exact (bZ_t ⟨i.toNat, by omega, by rw [Int.toNat_of_nonneg (by omega)]; exact c_21⟩).symm)) dX5_isReached_25
  refine zv_iconst hx hb dX5_isReached_0 ?_
  refine lv_istore_n (lv' := [(3, .int (zI 0)), (0, .ref w0), (1, .int (zI v)), (2, .int (zI fo))]) hx hb dX5_isReached_1 rfl hl (by decide) rfl (fun ls hl => ?_)
  exact cut2 _ 0 (Nat.lt_succ_self _) (by omega) (by intro j h0 h1; omega) _ (lv_sub hl [1, 2, 3, 0] rfl)
set_option maxHeartbeats 4000000 in
set_option maxRecDepth 100000 in
theorem c_X5_canBeLodged (l : Launch) (dC : Nat → ClassId) (dI : Nat → Nat → Nat) (cI cB cZ : ClassId) (w0 : Nat) (x0 : Nat) (h0 : Nat) (g0 : Nat) (p0 : Nat) (q0 : Nat) (r0 : Nat) (fk : Int) (sk : Int) (t0 : Nat) (b1 : Nat) (b2 : Nat) (tr : Int64) (h1 : Nat) (h2 : Nat) (h3 : Nat) (h4 : Nat) (n : Int) (so : Int → Int) (le : Int → Int) (ri : Int → Int) (ti : Int → Int) (v : Int) (hn : 0 ≤ n ∧ n ≤ 9) (hv : -2147483648 ≤ v ∧ v ≤ 2147483647) : MetR l yX5_canBeLodged wsX5_canBeLodged ({ frames := 1, cells := 0, slots := 0, locals := 21 }) (dC, dI) vwCl (zT cI cB cZ) zN [(w0, .inr (4, [.ref x0, .ref h0, .ref g0, .ref p0, .ref q0, .ref r0, .int (zI fk), .int (zI sk), .ref t0, .ref b1, .ref b2, .long tr])), (h0, .inr (0, [.int (zI n), .ref h1, .ref h2, .ref h3, .ref h4])), (h1, .inl (cI, 9, .inl (zA so))), (h2, .inl (cI, 9, .inl (zA le))), (h3, .inl (cI, 9, .inl (zA ri))), (h4, .inl (cI, 9, .inl (zA ti)))] [.ref w0, .int (zI v)] (zI (bZ (v = 9 ∨ (0 ≤ v ∧ v < n)))) := by
  refine MetR.intro (cc := cX5_canBeLodged) (maxL := 2) (ret := (some .boolean)) (by decide) rfl (Nat.le_of_ble_eq_true rfl) ?_
  intro p e s m args below meth c hx hb hr hlocks hml hts hown hP hK hE ls hl
  have hown : s.vm.findClass RX5 = some m.cls := hown
  have hl : lv_has ls 2 [(0, .ref w0), (1, .int (zI v))] := hl
  generalize hRM : ({ frames := 1, cells := 0, slots := 0, locals := 21 } : Room) = RM
  generalize hQQ : MQ below (vp_Si (fun r => r = zI (bZ (v = 9 ∨ (0 ≤ v ∧ v < n))))) args s 0 0 (fun _ => False) = QQ
  have in_X5 : ∀ w ∈ wsX50, w ∈ wsX5_canBeLodged := by decide +kernel
  have w_0 := hts (.fieldLink RX5 19 "WallMarbles" "built" "LWallMarbles$House;") (by decide +kernel)
  refine lv_iload_n hx hb dX5_canBeLodged_0 rfl (lv_at hl 1 rfl) ?_
  refine zv_bipush hx hb dX5_canBeLodged_1 (by decide +kernel) ?_
  refine zv_icmp_eq (tgt := 17) hx hb (by omega) (by omega) dX5_canBeLodged_3 (by decide) (fun c_3 => ?_) (fun c_3 => ?_)
  · refine zv_iconst hx hb dX5_canBeLodged_17 ?_
    refine lv_goto (tgt := 22) hx hb dX5_canBeLodged_18 (by decide) ?_
    rw [← hQQ]
    exact zr_zret hx hb hr hlocks (by first | exact z_nar_bool | rfl) (congrArg zI (show 1 = bZ (v = 9 ∨ (0 ≤ v ∧ v < n)) from by first | rfl | omega | exact (bZ_t (by omega)).symm | exact (bZ_f (by omega)).symm)) dX5_canBeLodged_22
  · refine lv_aload_n hx hb dX5_canBeLodged_6 rfl (lv_at hl 0 rfl) ?_
    refine va_get (D := (dC, dI)) (ci := 4) (v := .ref h0) (C := RX5) (T := TX5) (N := 12) hx hb hts in_X5 hown hK hP 0 rfl rfl 1 (by decide) w_0 (fun _ h9 => h9) rfl dX5_canBeLodged_7 ?_
    refine lv_iload_n hx hb dX5_canBeLodged_10 rfl (lv_at hl 1 rfl) ?_
    refine zv_callRV (As := [.int (zI v)]) (rest := []) ⟨hx, hb, hml, hown, hts⟩ (c_X0_has l dC dI cI cB cZ h0 h1 h2 h3 h4 n so le ri ti v (by omega) (by omega)) (cwV 1 hts gX5_canBeLodged_X0_has rfl rfl rfl (by decide +kernel) ⟨by rw [← hRM]; first | decide | (dsimp only; omega), by rw [← hRM]; first | decide | (dsimp only; omega)⟩) hP hK [1, 2, 3, 4, 5] rfl [0, 1, 2] rfl zN_bl (zN_go hE) (q0 := 0) rfl rfl rfl rfl hl.1 rfl (Nat.le_of_ble_eq_true rfl) dX5_canBeLodged_11 ⟨Nat.zero_le _, Nat.zero_le _⟩ ?_
    refine zv_ifeq_b (tgt := 21) hx hb dX5_canBeLodged_14 (by decide) (fun c_14 => ?_) (fun c_14 => ?_)
    · refine zv_iconst hx hb dX5_canBeLodged_21 ?_
      rw [← hQQ]
      exact zr_zret hx hb hr hlocks (by first | exact z_nar_bool | rfl) (congrArg zI (show 0 = bZ (v = 9 ∨ (0 ≤ v ∧ v < n)) from by first | rfl | omega | exact (bZ_t (by omega)).symm | exact (bZ_f (by omega)).symm)) dX5_canBeLodged_22
    · refine zv_iconst hx hb dX5_canBeLodged_17 ?_
      refine lv_goto (tgt := 22) hx hb dX5_canBeLodged_18 (by decide) ?_
      rw [← hQQ]
      exact zr_zret hx hb hr hlocks (by first | exact z_nar_bool | rfl) (congrArg zI (show 1 = bZ (v = 9 ∨ (0 ≤ v ∧ v < n)) from by first | rfl | omega | exact (bZ_t (by omega)).symm | exact (bZ_f (by omega)).symm)) dX5_canBeLodged_22
