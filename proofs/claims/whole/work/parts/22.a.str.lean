/-! strings and statics that nobody writes, carried beside the nest words -/
def zLen : List Nat := [7, 4, 5, 3]
def zByt : List (List Int32) := [[108, 97, 110, 100, 105, 110, 103], [102, 111, 114, 107], [115, 105, 101, 118, 101], [99, 117, 112]]
def zTr (j : Nat) : Int32 := if j = 0 then 1 else if j = 1 then 10 else if j = 2 then 100 else if j = 3 then 1000 else if j = 4 then 10000 else 100000
def zX (adK adV : Nat → Nat) (kt : Nat) (B : Nat → Prop) (U : State) : Prop :=
  zN U ∧ vk_S 4 zLen zByt adK adV B U U.heap ∧ (vk_R RX3 74 "landing" (adK 0) U ∧ vk_R RX3 80 "fork" (adK 1) U ∧ vk_R RX3 82 "sieve" (adK 2) U ∧ vk_R RX3 84 "cup" (adK 3) U) ∧ va_Z "java/lang/String" "COMPACT_STRINGS" "Z" (.int 1) B U U.heap ∧ va_Zq "jdk/internal/util/Preconditions" "SIOOBE_FORMATTER" "Ljava/util/function/BiFunction;" B U U.heap ∧ va_Z "WallMarbles" "KIND_TRACE" "[I" (.ref kt) B U U.heap ∧ va_T .int kt 6 (fun j => .int (zTr j)) B U U.heap
theorem zX_go {adK adV : Nat → Nat} {kt : Nat} {A : Nat → Prop} {s : State} {H : Heap} {locs : List Loc} (h : zX adK adV kt A s) (hS : va_S A s.heap H locs) : ∀ B : Nat → Prop, (∀ q : Nat, B q → A q) → ∀ U : State, U.heap = H → s.WarmedH U.vm → zX adK adV kt B U := by
  intro B hB U hU hW
  obtain ⟨h1, h2, ⟨h3, h4, h5, h6⟩, h7, h8, h9, h10⟩ := h
  subst hU
  have hq := hS.2.1
  exact ⟨zN_go h1 U rfl hW, (vk_S.moved hW.alike (h2.kept hq)).narrow hB, ⟨h3.warm hW, h4.warm hW, h5.warm hW, h6.warm hW⟩, (va_Z.moved hW.alike (h7.kept hq)).narrow hB, (va_Zq.moved hW.alike (h8.kept hq)).narrow hB, (va_Z.moved hW.alike (h9.kept hq)).narrow hB, (va_T.moved hW.alike (h10.kept hq)).narrow hB⟩
theorem zX_bl {adK adV : Nat → Nat} {kt : Nat} : ∀ B : Nat → Prop, zBl (zX adK adV kt B) := by
  intro B U g mk a h
  obtain ⟨h1, h2, ⟨h3, h4, h5, h6⟩, h7, h8, h9, h10⟩ := h
  have hv : U.vm.Alike (U.calling g mk a).vm := Vm.Alike.refl U.vm
  exact ⟨zN_bl U g mk a h1, vk_S.moved hv h2, ⟨vk_R.same rfl h3, vk_R.same rfl h4, vk_R.same rfl h5, vk_R.same rfl h6⟩, va_Z.moved hv h7, va_Zq.moved hv h8, va_Z.moved hv h9, va_T.moved hv h10⟩
/-- a contract that writes, and whose words speak of the cells that it may write -/
def MetX {S : Type} (l : Launch) (y : MethodName) (ws : List Cond) (rm : Room) (D : va_G) (cl : List vw_C) (tys : List (ClassId × FieldType)) (E : (Nat → Prop) → State → Prop) (w : va_W) (av : List Value) (rv : S → Option Value) (w' : S → va_W) (post : S → Prop) : Prop :=
  ∀ sz : Nat, Met l y ws rm (va_Pc av (fun U => U.heap.size = sz ∧ va_P D cl w U.heap ∧ va_K D cl tys U ∧ va_D (fun _ => True) w ∧ E (va_A w sz) U)) (QW D cl (va_A w sz) rv w' post) 0 0 (va_A w sz)
theorem MetX.intro {S : Type} {l : Launch} {y : MethodName} {ws ws' : List Cond} {rm : Room} {D : va_G} {cl : List vw_C} {tys : List (ClassId × FieldType)} {E : (Nat → Prop) → State → Prop} {w : va_W} {av : List Value} {rv : S → Option Value} {w' : S → va_W} {post : S → Prop} {cc : ByteArray} {maxL : Nat} {ret : Option FieldType}
    (hy : plainName y.cls = true) (hw : ws = Cond.code y cc maxL ret :: ws') (hn : (lg_sl av).length ≤ maxL)
    (body : ∀ (p : Program) (e : Env) (s : State) (m : MethodId) (args : Array Value) (below : List Frame) (meth : Method) (c : Code) (A : Nat → Prop), p.tables.exec = Jvm.exec → c.code = cc → meth.sig.returnType = ret → meth.locks = false → c.maxLocals = maxL → (∀ w ∈ ws, w.before args s = true) → s.vm.findClass y.cls = some m.cls → va_P D cl w s.heap → va_K D cl tys s → va_D A w → va_S A s.heap s.heap [] → (∀ q : Nat, s.heap.size ≤ q → A q) → E A s → ∀ ls : Array Slot, lv_has ls maxL (lv_args 0 av) →
      W p l e rm s m args below meth c s.heap [] 0 0 (MQ below (QW D cl A rv w' post) args s 0 0 A) (F0 m 0 ls [])) : MetX l y ws rm D cl tys E w av rv w' post := by
  intro sz
  refine Met.ofW (cc := cc) (maxL := maxL) (ret := ret) hy hw ?_
  intro p e s m args below meth c s₁ B hml hv
  obtain ⟨rfl, hsz, hP, hK, hD0, hE⟩ := hv
  subst hsz
  have hl := lv_entry av (n := maxL) hn
  rw [lg_entry_eq]
  exact body p e s m _ below meth c _ B.exec B.bytes B.returns B.notSynchronized hml (atoms_spec (ws := ws) B.pre) (findClass_of_methodNamed B.named) hP hK (hD0.self (sz := s.heap.size)) va_S.rf (fun q h => Or.inr h) hE _ hl
/-- reads alone, answers nothing -/
def zSv : Array Value → State → Outcome → State → Prop := fun _ st o t => o = .returned none ∧ t.heap = st.heap
def MetV (l : Launch) (y : MethodName) (ws : List Cond) (rm : Room) (D : va_G) (cl : List vw_C) (tys : List (ClassId × FieldType)) (E : State → Prop) (w : va_W) (av : List Value) : Prop :=
  Met l y ws rm (va_Pc av (fun U => va_P D cl w U.heap ∧ va_K D cl tys U ∧ E U)) zSv 0 0 (fun _ => False)
section ZK
variable {p : Program} {l : Launch} {e : Env} {R : Room} {s : State} {m : MethodId} {args : Array Value} {below : List Frame} {meth : Method} {c : Code} {H : Heap} {locs : List Loc} {cells slots : Nat} {Q : State → Prop}
variable {cc bytes : ByteArray} {pc nL n index maxL : Nat} {ls : Array Slot} {rest As st0 : List Value} {D : va_G} {cl : List vw_C} {A : Nat → Prop} {b : Nat} {tys tyc : List (ClassId × FieldType)} {ws w : va_W} {H0 : Heap} {y : MethodName} {wy Ts : List Cond} {rm : Room} {v : Int32} {own C : String} {ret : Option FieldType}
/-- a call of a method that reads alone, on an object that isn't in the world -/
theorem zv_callRK {E : State → Prop} (F : CallFix p m c cc nL s args Ts own) (hM : MetR l y wy rm D cl tyc E w (.ref b :: As) v) (cw : CallW R s args own C index y bytes maxL ret wy rm 0 0 n) (hP : va_P D cl ws H) (hK : va_K D cl tys s) (isC : List Nat) (hC : isC.filterMap (fun i => ws[i]?) = w) (isT : List Nat) (hT : isT.filterMap (fun i => tys[i]?) = tyc) (hEb : zBl E) (hE : ∀ U : State, U.heap = H → s.WarmedH U.vm → E U)
    (hrc : ∃ cell : Cell, H[b]? = some cell ∧ cell.vm.isStatics = false ∧ s.vm.findClass C = some cell.cls) (hn : As.length = n) (hsize : ls.size = nL) (hstack : st0 = As.reverse ++ .ref b :: rest) (hW : (rest.map fun v => v.category).sum ≤ 8) (hdg : decode cc pc = .ok (.invokevirtual index, 3)) (hf : cells ≤ R.cells ∧ slots ≤ R.slots)
    (kk : W p l e R s m args below meth c H locs cells slots Q (F0 m (pc + 3) ls (.int v :: rest))) : W p l e R s m args below meth c H locs cells slots Q (F0 m pc ls st0) := by
  have hPc := hP.sub isC hC
  have hKc := hK.sub isT hT
  exact vp_callSi (W.runV F hM cw ⟨fun a U g mk q => by obtain ⟨q0, qP, qK, qE⟩ := q; exact ⟨q0, qP, va_K.moved (u := U) (U := U.calling g mk a) (Vm.Alike.refl U.vm) qK, hEb _ _ _ _ qE⟩, hrc, fun U hU hW => ⟨rfl, by rw [hU]; exact hPc, va_K.moved hW.alike hKc, hE U hU hW⟩⟩ rfl hn hsize hstack (lv_room hW) hdg hf) (fun r h => by rw [h]; exact kk)
theorem zv_callVS {E : State → Prop} (F : CallFix p m c cc nL s args Ts own) (hM : MetV l y wy rm D cl tyc E w As) (cw : CallB R s args own index y bytes maxL ret wy rm 0 0 n ∧ (Cond.static y).before args s = true) (hP : va_P D cl ws H) (hK : va_K D cl tys s) (isC : List Nat) (hC : isC.filterMap (fun i => ws[i]?) = w) (isT : List Nat) (hT : isT.filterMap (fun i => tys[i]?) = tyc) (hEb : zBl E) (hE : ∀ U : State, U.heap = H → s.WarmedH U.vm → E U)
    (hn : As.length = n) (hsize : ls.size = nL) (hstack : st0 = As.reverse ++ rest) (hW : (rest.map fun v => v.category).sum ≤ 8) (hdg : decode cc pc = .ok (.invokestatic index, 3)) (hf : cells ≤ R.cells ∧ slots ≤ R.slots)
    (kk : W p l e R s m args below meth c H locs cells slots Q (F0 m (pc + 3) ls rest)) : W p l e R s m args below meth c H locs cells slots Q (F0 m pc ls st0) := by
  have hPc := hP.sub isC hC
  have hKc := hK.sub isT hT
  have hr := W.runS (H := H) (locs := locs) (cells := cells) (slots := slots) (below := below) (meth := meth) (e := e) (As := As) (rest := rest) (g := F0 m pc ls st0) F hM cw ⟨fun a U g mk q => by obtain ⟨q0, qP, qK, qE⟩ := q; exact ⟨q0, qP, va_K.moved (u := U) (U := U.calling g mk a) (Vm.Alike.refl U.vm) qK, hEb _ _ _ _ qE⟩, fun U hU hW => ⟨rfl, by rw [hU]; exact hPc, va_K.moved hW.alike hKc, hE U hU hW⟩⟩ rfl hn hsize hstack (lv_room hW) hdg hf
  intro T hT X
  obtain ⟨v, st₀, t, T', L, h0, X', hL, e1, ⟨hv, hh⟩, st⟩ := hr T hT X
  cases hv
  obtain ⟨t2, a1, b1⟩ := kk T' (by rw [e1, hh, h0]) (Stand.forget X' (fun q h => (hL q h).elim))
  exact ⟨t2, st t2 a1, b1⟩
theorem zv_callXV {E : (Nat → Prop) → State → Prop} {S : Type} {rv : S → Option Value} {w' : S → va_W} {post : S → Prop} (F : CallFix p m c cc nL s args Ts own) (hM : MetX l y wy rm D cl tyc E w (.ref b :: As) rv w' post) (cw : CallW R s args own C index y bytes maxL ret wy rm 0 0 n) (hP : va_P D cl ws H) (hD : va_D A ws) (hS : va_S A H0 H locs) (hA : ∀ q : Nat, H0.size ≤ q → A q) (hK : va_K D cl tys s) (isC : List Nat) (hC : isC.map (fun i => ws[i]?) = w.map some) (hn9 : va_nd isC = true) (isT : List Nat) (hT : isT.filterMap (fun i => tys[i]?) = tyc) (hEb : ∀ B : Nat → Prop, zBl (E B)) (hE : ∀ B : Nat → Prop, (∀ q : Nat, B q → A q) → ∀ U : State, U.heap = H → s.WarmedH U.vm → E B U)
    (ha : ∀ u, (w' u).map (fun x => x.1) = w.map (fun x => x.1)) {ws2 : S → va_W} (h2 : ∀ u, zP ws isC (w' u) = ws2 u)
    {q0 ci : Nat} {q : vw_C} {fs : List Value} (he : w[q0]? = some (b, .inr (ci, fs))) (hc : cl[ci]? = some q) (hq : q.1 = C) (hn : As.length = n) (hsize : ls.size = nL) (hstack : st0 = As.reverse ++ .ref b :: rest) (hW : (rest.map fun v => v.category).sum ≤ 8) (hdg : decode cc pc = .ok (.invokevirtual index, 3)) (hf : cells ≤ R.cells ∧ slots ≤ R.slots)
    (kk : ∀ (u : S) (H1 : Heap) (locs1 : List Loc), post u → va_P D cl (ws2 u) H1 → va_D A (ws2 u) → va_S A H0 H1 locs1 → W p l e R s m args below meth c H1 locs1 cells slots Q (F0 m (pc + 3) ls ((rv u).toList ++ rest))) : W p l e R s m args below meth c H locs cells slots Q (F0 m pc ls st0) := by
  subst hq
  have hPc : va_P D cl w H := fun k x hx => by
    have h1 : (isC.map (fun i => ws[i]?))[k]? = some (some x) := by rw [hC, List.getElem?_map, hx]; rfl
    rw [List.getElem?_map] at h1
    cases hi : isC[k]? with
    | none => rw [hi] at h1; cases h1
    | some i => rw [hi] at h1; exact hP i x (Option.some.inj h1)
  have hKc := hK.sub isT hT
  have hDc := hD.sub isC hn9 hC
  have hF := va_free (wc := w) hD hS hA isC hC
  exact zv_backW (va_runV F (hM H.size) cw ⟨fun a U g mk q => by obtain ⟨q0, q1, qP, qK, qD, qE⟩ := q; exact ⟨q0, q1, qP, va_K.moved (u := U) (U := U.calling g mk a) (Vm.Alike.refl U.vm) qK, qD, hEb _ _ _ _ _ qE⟩, va_recv hKc hPc hc he, fun U hU hW => ⟨rfl, by rw [hU], by rw [hU]; exact hPc, va_K.moved hW.alike hKc, hDc.weaken (fun _ _ _ _ => trivial), hE _ hF U hU hW⟩⟩ rfl hn hsize hstack (lv_room hW) hdg hf) hP hD hS hA isC hC ha h2 kk
end ZK
/-! the JDK's own methods over the literals -/
def zL (i : Nat) : Int := ((zLen.getD i 0 : Nat) : Int)
def zCh (i : Nat) (k : Int) : Int := ((zByt.getD i []).getD k.toNat 0).toInt
theorem zL_b {i : Nat} (h : i < 4) : 3 ≤ zL i ∧ zL i ≤ 7 := by
  rcases (show i = 0 ∨ i = 1 ∨ i = 2 ∨ i = 3 by omega) with rfl | rfl | rfl | rfl <;> decide
theorem zCh_n {i : Nat} (h : i < 4) : ∀ k : Nat, k < zLen.getD i 0 → 97 ≤ ((zByt.getD i []).getD k 0).toInt ∧ ((zByt.getD i []).getD k 0).toInt ≤ 122 := by
  rcases (show i = 0 ∨ i = 1 ∨ i = 2 ∨ i = 3 by omega) with rfl | rfl | rfl | rfl <;> decide +kernel
theorem zCh_b {i : Nat} (h : i < 4) {k : Int} (h0 : 0 ≤ k) (h1 : k < zL i) : 97 ≤ zCh i k ∧ zCh i k ≤ 122 := by
  unfold zL at h1
  exact zCh_n h k.toNat (by omega)
theorem z_i2c : ∀ n : Nat, n < 128 → ((zI (n : Int)).toUInt32 % 65536).toInt32 = zI (n : Int) ∧ narrow .char (.int (zI (n : Int))) = .int (zI (n : Int)) := by decide +kernel
theorem z_i2cz {z : Int} (h : 97 ≤ z ∧ z ≤ 122) : ((zI z).toUInt32 % 65536).toInt32 = zI z ∧ narrow .char (.int (zI z)) = .int (zI z) := by
  obtain ⟨n, rfl⟩ := Int.eq_ofNat_of_zero_le (show 0 ≤ z by omega)
  exact z_i2c n (by omega)
set_option maxHeartbeats 4000000 in
set_option maxRecDepth 100000 in
theorem c_J0_coder_7d493 (l : Launch) (dC : Nat → ClassId) (dI : Nat → Nat → Nat) (cI cB cZ : ClassId) (adK adV : Nat → Nat) (kt i : Nat) (hi : i < 4) : MetR l yJ0_coder_7d493 wsJ0_coder_7d493 ({ frames := 0, cells := 0, slots := 0, locals := 0 } : Room) (dC, dI) vwCl (zT cI cB cZ) (zX adK adV kt (fun _ => False)) [] [.ref (adK i)] (zI 0) := by
  refine MetR.intro (cc := cJ0_coder_7d493) (maxL := 1) (ret := (some .byte)) (by decide) rfl (Nat.le_of_ble_eq_true rfl) ?_
  intro p e s m args below meth c hx hb hr hlocks hml hts hown hP hK hE ls hl
  have hown : s.vm.findClass RJ0 = some m.cls := hown
  have hl : lv_has ls 1 [(0, .ref (adK i))] := hl
  have hS : va_S (fun _ => False) s.heap s.heap [] := va_S.rf
  refine va_gets hx hb hE.2.2.2.1 hS hown (hts (.fieldLink RJ0 38 "java/lang/String" "COMPACT_STRINGS" "Z") (by decide +kernel)) (fun _ h => h) dJ0_coder_7d493_0 ?_
  refine lv_if_eq (tgt := 13) hx hb dJ0_coder_7d493_3 (by decide) (fun q => absurd q (by decide)) (fun _ => ?_)
  refine lv_aload_n hx hb dJ0_coder_7d493_6 rfl (lv_at hl 0 rfl) ?_
  refine vk_getf hx hb (hE.2.1.1 i hi).2.1 hS hown (hts (.fieldLink RJ0 15 "java/lang/String" "coder" "B") (by decide +kernel)) (fun _ h => h) dJ0_coder_7d493_7 ?_
  refine lv_goto (tgt := 14) hx hb dJ0_coder_7d493_10 (by decide) ?_
  exact zr_zret hx hb hr hlocks rfl zI_0 dJ0_coder_7d493_14
set_option maxHeartbeats 4000000 in
set_option maxRecDepth 100000 in
theorem c_J0_isLatin1_aae02 (l : Launch) (dC : Nat → ClassId) (dI : Nat → Nat → Nat) (cI cB cZ : ClassId) (adK adV : Nat → Nat) (kt i : Nat) (hi : i < 4) : MetR l yJ0_isLatin1_aae02 wsJ0_isLatin1_aae02 ({ frames := 0, cells := 0, slots := 0, locals := 0 } : Room) (dC, dI) vwCl (zT cI cB cZ) (zX adK adV kt (fun _ => False)) [] [.ref (adK i)] (zI 1) := by
  refine MetR.intro (cc := cJ0_isLatin1_aae02) (maxL := 1) (ret := (some .boolean)) (by decide) rfl (Nat.le_of_ble_eq_true rfl) ?_
  intro p e s m args below meth c hx hb hr hlocks hml hts hown hP hK hE ls hl
  have hown : s.vm.findClass RJ0 = some m.cls := hown
  have hl : lv_has ls 1 [(0, .ref (adK i))] := hl
  have hS : va_S (fun _ => False) s.heap s.heap [] := va_S.rf
  refine va_gets hx hb hE.2.2.2.1 hS hown (hts (.fieldLink RJ0 38 "java/lang/String" "COMPACT_STRINGS" "Z") (by decide +kernel)) (fun _ h => h) dJ0_isLatin1_aae02_0 ?_
  refine lv_if_eq (tgt := 17) hx hb dJ0_isLatin1_aae02_3 (by decide) (fun q => absurd q (by decide)) (fun _ => ?_)
  refine lv_aload_n hx hb dJ0_isLatin1_aae02_6 rfl (lv_at hl 0 rfl) ?_
  refine vk_getf hx hb (hE.2.1.1 i hi).2.1 hS hown (hts (.fieldLink RJ0 15 "java/lang/String" "coder" "B") (by decide +kernel)) (fun _ h => h) dJ0_isLatin1_aae02_7 ?_
  refine lv_if_ne (tgt := 17) hx hb dJ0_isLatin1_aae02_10 (by decide) (fun q => absurd rfl q) (fun _ => ?_)
  refine zv_iconst hx hb dJ0_isLatin1_aae02_13 ?_
  refine lv_goto (tgt := 18) hx hb dJ0_isLatin1_aae02_14 (by decide) ?_
  exact zr_zret hx hb hr hlocks rfl rfl dJ0_isLatin1_aae02_18
theorem z_shr0 {i : Nat} (h : i < 4) : Int32.ofNat (zLen.getD i 0) >>> (zI 0 &&& 31) = zI (zL i) := by
  rcases (show i = 0 ∨ i = 1 ∨ i = 2 ∨ i = 3 by omega) with rfl | rfl | rfl | rfl <;> decide +kernel
set_option maxHeartbeats 4000000 in
set_option maxRecDepth 100000 in
theorem c_J0_length_8abf5 (l : Launch) (dC : Nat → ClassId) (dI : Nat → Nat → Nat) (cI cB cZ : ClassId) (adK adV : Nat → Nat) (kt i : Nat) (hi : i < 4) : MetR l yJ0_length_8abf5 wsJ0_length_8abf5 ({ frames := 1, cells := 0, slots := 0, locals := 20 } : Room) (dC, dI) vwCl (zT cI cB cZ) (zX adK adV kt (fun _ => False)) [] [.ref (adK i)] (zI (zL i)) := by
  refine MetR.intro (cc := cJ0_length_8abf5) (maxL := 1) (ret := (some .int)) (by decide) rfl (Nat.le_of_ble_eq_true rfl) ?_
  intro p e s m args below meth c hx hb hr hlocks hml hts hown hP hK hE ls hl
  have hown : s.vm.findClass RJ0 = some m.cls := hown
  have hl : lv_has ls 1 [(0, .ref (adK i))] := hl
  have hS : va_S (fun _ => False) s.heap s.heap [] := va_S.rf
  refine lv_aload_n hx hb dJ0_length_8abf5_0 rfl (lv_at hl 0 rfl) ?_
  refine vk_getf hx hb (hE.2.1.1 i hi).2.2.1 hS hown (hts (.fieldLink RJ0 9 "java/lang/String" "value" "[B") (by decide +kernel)) (fun _ h => h) dJ0_length_8abf5_1 ?_
  refine va_tlen hx hb (hE.2.1.1 i hi).2.2.2 hS rfl dJ0_length_8abf5_4 ?_
  refine lv_aload_n hx hb dJ0_length_8abf5_5 rfl (lv_at hl 0 rfl) ?_
  refine zv_callRK (As := []) (rest := [.int (Int32.ofNat (zLen.getD i 0))]) ⟨hx, hb, hml, hown, hts⟩ (c_J0_coder_7d493 l dC dI cI cB cZ adK adV kt i hi) (cwV 0 hts gJ0_length_8abf5_J0_coder_7d493 rfl rfl rfl (by decide +kernel) ⟨Nat.le_of_ble_eq_true rfl, Nat.le_of_ble_eq_true rfl⟩) hP hK [] rfl [0, 1, 2] rfl (zX_bl _) (zX_go hE hS _ (fun _ h => h)) (vk_recv hE.2.1 hi hS) rfl hl.1 rfl (Nat.le_of_ble_eq_true rfl) dJ0_length_8abf5_6 ⟨Nat.zero_le _, Nat.zero_le _⟩ ?_
  refine zv_ishr (z := zL i) hx hb (z_shr0 hi) dJ0_length_8abf5_9 ?_
  exact zr_iret hx hb hr hlocks rfl dJ0_length_8abf5_10
set_option maxHeartbeats 4000000 in
set_option maxRecDepth 100000 in
theorem c_J3_checkIndex_8e157 (l : Launch) (dC : Nat → ClassId) (dI : Nat → Nat → Nat) (cI cB cZ : ClassId) (adK adV : Nat → Nat) (kt : Nat) (a b : Int) (fv : Value) (hf : fv = .null ∨ ∃ t, fv = .ref t) (hab : 0 ≤ a ∧ a < b ∧ b ≤ 2147483647) : MetR l yJ3_checkIndex_8e157 wsJ3_checkIndex_8e157 ({ frames := 0, cells := 0, slots := 0, locals := 0 } : Room) (dC, dI) vwCl (zT cI cB cZ) (zX adK adV kt (fun _ => False)) [] [.int (zI a), .int (zI b), fv] (zI a) := by
  rcases hf with rfl | ⟨t, rfl⟩
  all_goals
    refine MetR.intro (cc := cJ3_checkIndex_8e157) (maxL := 3) (ret := (some .int)) (by decide) rfl (Nat.le_of_ble_eq_true rfl) ?_
    intro p e s m args below meth c hx hb hr hlocks hml hts hown hP hK hE ls hl
    refine lv_iload_n hx hb dJ3_checkIndex_8e157_0 rfl (lv_at hl 0 rfl) ?_
    refine zv_if_lt (tgt := 9) hx hb (by omega) dJ3_checkIndex_8e157_1 (by decide) (fun q => by exfalso; omega) (fun _ => ?_)
    refine lv_iload_n hx hb dJ3_checkIndex_8e157_4 rfl (lv_at hl 0 rfl) ?_
    refine lv_iload_n hx hb dJ3_checkIndex_8e157_5 rfl (lv_at hl 1 rfl) ?_
    refine zv_icmp_lt (tgt := 16) hx hb (by omega) (by omega) dJ3_checkIndex_8e157_6 (by decide) (fun _ => ?_) (fun q => by exfalso; omega)
    refine lv_iload_n hx hb dJ3_checkIndex_8e157_16 rfl (lv_at hl 0 rfl) ?_
    exact zr_iret hx hb hr hlocks rfl dJ3_checkIndex_8e157_17
set_option maxHeartbeats 4000000 in
set_option maxRecDepth 100000 in
theorem c_J0_checkIndex_df160 (l : Launch) (dC : Nat → ClassId) (dI : Nat → Nat → Nat) (cI cB cZ : ClassId) (adK adV : Nat → Nat) (kt : Nat) (a b : Int) (hab : 0 ≤ a ∧ a < b ∧ b ≤ 2147483647) : MetV l yJ0_checkIndex_df160 wsJ0_checkIndex_df160 ({ frames := 1, cells := 0, slots := 0, locals := 22 } : Room) (dC, dI) vwCl (zT cI cB cZ) (zX adK adV kt (fun _ => False)) [] [.int (zI a), .int (zI b)] := by
  refine Met.ofW (cc := cJ0_checkIndex_df160) (maxL := 2) (ret := none) (by decide) rfl ?_
  intro p e s m args below meth c s₁ B hml hv
  obtain ⟨rfl, hP, hK, hE⟩ := hv
  have hl := lv_entry [.int (zI a), .int (zI b)] (n := 2) (Nat.le_of_ble_eq_true rfl)
  rw [lg_entry_eq]
  generalize (lg_sl ([.int (zI a), .int (zI b)]) ++ List.replicate (2 - (lg_sl ([.int (zI a), .int (zI b)])).length) Slot.unset).toArray = ls at hl ⊢
  have hx := B.exec
  have hb := B.bytes
  have hr := B.returns
  have hlocks := B.notSynchronized
  have hts := atoms_spec (ws := wsJ0_checkIndex_df160) B.pre
  have hown : s.vm.findClass RJ0 = some m.cls := findClass_of_methodNamed B.named
  have hS : va_S (fun _ => False) s.heap s.heap [] := va_S.rf
  have hl : lv_has ls 2 [(0, .int (zI a)), (1, .int (zI b))] := hl
  refine lv_iload_n hx hb dJ0_checkIndex_df160_0 rfl (lv_at hl 0 rfl) ?_
  refine lv_iload_n hx hb dJ0_checkIndex_df160_1 rfl (lv_at hl 1 rfl) ?_
  have key : ∀ fv : Value, fv = .null ∨ (∃ t, fv = .ref t) → va_Z "jdk/internal/util/Preconditions" "SIOOBE_FORMATTER" "Ljava/util/function/BiFunction;" fv (fun _ => False) s s.heap → W p l e ({ frames := 1, cells := 0, slots := 0, locals := 22 } : Room) s m #[.int (zI a), .int (zI b)] below meth c s.heap [] 0 0 (MQ below zSv #[.int (zI a), .int (zI b)] s 0 0 (fun _ => False)) (F0 m 2 ls [.int (zI b), .int (zI a)]) := by
    intro fv hf hZ
    refine va_gets hx hb hZ hS hown (hts (.fieldLink RJ0 1053 "jdk/internal/util/Preconditions" "SIOOBE_FORMATTER" "Ljava/util/function/BiFunction;") (by decide +kernel)) (fun _ h => h) dJ0_checkIndex_df160_2 ?_
    refine zv_callRS (As := [.int (zI a), .int (zI b), fv]) (rest := []) ⟨hx, hb, hml, hown, hts⟩ (c_J3_checkIndex_8e157 l dC dI cI cB cZ adK adV kt a b fv hf hab) (va_cwS 3 hts gJ0_checkIndex_df160_J3_checkIndex_8e157 rfl rfl rfl (by decide +kernel) ⟨Nat.le_of_ble_eq_true rfl, Nat.le_of_ble_eq_true rfl⟩) hP hK [] rfl [0, 1, 2] rfl (zX_bl _) (zX_go hE hS _ (fun _ h => h)) rfl hl.1 rfl (Nat.le_of_ble_eq_true rfl) dJ0_checkIndex_df160_5 ⟨Nat.zero_le _, Nat.zero_le _⟩ ?_
    refine lv_pop hx hb dJ0_checkIndex_df160_8 rfl ?_
    exact W.vret hx hb hr (fun t ht hW => ⟨rfl, ht⟩) (fun q h => by cases h) dJ0_checkIndex_df160_9 hlocks
  rcases hE.2.2.2.2.1 with hZ | ⟨t, hZ⟩
  · exact key _ (Or.inl rfl) hZ
  · exact key _ (Or.inr ⟨t, rfl⟩) hZ
set_option maxHeartbeats 4000000 in
set_option maxRecDepth 100000 in
theorem c_J1_charAt_3b067 (l : Launch) (dC : Nat → ClassId) (dI : Nat → Nat → Nat) (cI cB cZ : ClassId) (adK adV : Nat → Nat) (kt i : Nat) (k : Int) (hi : i < 4) (hk : 0 ≤ k ∧ k < zL i) : MetR l yJ1_charAt_3b067 wsJ1_charAt_3b067 ({ frames := 2, cells := 0, slots := 0, locals := 43 } : Room) (dC, dI) vwCl (zT cI cB cZ) (zX adK adV kt (fun _ => False)) [] [.ref (adV i), .int (zI k)] (zI (zCh i k)) := by
  refine MetR.intro (cc := cJ1_charAt_3b067) (maxL := 2) (ret := (some .char)) (by decide) rfl (Nat.le_of_ble_eq_true rfl) ?_
  intro p e s m args below meth c hx hb hr hlocks hml hts hown hP hK hE ls hl
  have hown : s.vm.findClass RJ1 = some m.cls := hown
  have hl : lv_has ls 2 [(0, .ref (adV i)), (1, .int (zI k))] := hl
  have hS : va_S (fun _ => False) s.heap s.heap [] := va_S.rf
  have hb7 := zL_b hi
  have hcb := zCh_b hi hk.1 hk.2
  refine lv_iload_n hx hb dJ1_charAt_3b067_0 rfl (lv_at hl 1 rfl) ?_
  refine lv_aload_n hx hb dJ1_charAt_3b067_1 rfl (lv_at hl 0 rfl) ?_
  refine va_tlen (v := zI (zL i)) hx hb (hE.2.1.1 i hi).2.2.2 hS (zI_n _).symm dJ1_charAt_3b067_2 ?_
  refine zv_callVS (As := [.int (zI k), .int (zI (zL i))]) (rest := []) ⟨hx, hb, hml, hown, hts⟩ (c_J0_checkIndex_df160 l dC dI cI cB cZ adK adV kt k (zL i) (by omega)) (va_cwS 2 hts gJ1_charAt_3b067_J0_checkIndex_df160 rfl rfl rfl (by decide +kernel) ⟨Nat.le_of_ble_eq_true rfl, Nat.le_of_ble_eq_true rfl⟩) hP hK [] rfl [0, 1, 2] rfl (zX_bl _) (zX_go hE hS _ (fun _ h => h)) rfl hl.1 rfl (Nat.le_of_ble_eq_true rfl) dJ1_charAt_3b067_3 ⟨Nat.zero_le _, Nat.zero_le _⟩ ?_
  refine lv_aload_n hx hb dJ1_charAt_3b067_6 rfl (lv_at hl 0 rfl) ?_
  refine lv_iload_n hx hb dJ1_charAt_3b067_7 rfl (lv_at hl 1 rfl) ?_
  refine va_tb (v := .int (zI (zCh i k))) hx hb (hE.2.1.1 i hi).2.2.2 hS (zI_in ⟨hk.1, hk.2, by omega⟩) (by show Value.int ((zByt.getD i []).getD (zI k).toNatClampNeg 0) = _; rw [zI_cl (by omega)]; exact congrArg Value.int (zI_as _).symm) dJ1_charAt_3b067_8 ?_
  refine zv_sipush hx hb dJ1_charAt_3b067_9 (by decide +kernel) ?_
  refine zv_iand (z := zCh i k) hx hb (by rw [zb_mod 8 (by decide +kernel) (P := 256) (by decide) (by omega), show zCh i k % 256 = zCh i k by omega]) dJ1_charAt_3b067_12 ?_
  refine lv_i2c (v := zI (zCh i k)) hx hb dJ1_charAt_3b067_13 (z_i2cz hcb).1 ?_
  exact zr_zret hx hb hr hlocks (z_i2cz hcb).2 rfl dJ1_charAt_3b067_14
set_option maxHeartbeats 4000000 in
set_option maxRecDepth 100000 in
theorem c_J0_charAt_5068e (l : Launch) (dC : Nat → ClassId) (dI : Nat → Nat → Nat) (cI cB cZ : ClassId) (adK adV : Nat → Nat) (kt i : Nat) (k : Int) (hi : i < 4) (hk : 0 ≤ k ∧ k < zL i) : MetR l yJ0_charAt_5068e wsJ0_charAt_5068e ({ frames := 3, cells := 0, slots := 0, locals := 64 } : Room) (dC, dI) vwCl (zT cI cB cZ) (zX adK adV kt (fun _ => False)) [] [.ref (adK i), .int (zI k)] (zI (zCh i k)) := by
  refine MetR.intro (cc := cJ0_charAt_5068e) (maxL := 2) (ret := (some .char)) (by decide) rfl (Nat.le_of_ble_eq_true rfl) ?_
  intro p e s m args below meth c hx hb hr hlocks hml hts hown hP hK hE ls hl
  have hown : s.vm.findClass RJ0 = some m.cls := hown
  have hl : lv_has ls 2 [(0, .ref (adK i)), (1, .int (zI k))] := hl
  have hS : va_S (fun _ => False) s.heap s.heap [] := va_S.rf
  have hcb := zCh_b hi hk.1 hk.2
  refine lv_aload_n hx hb dJ0_charAt_5068e_0 rfl (lv_at hl 0 rfl) ?_
  refine zv_callRK (As := []) (rest := []) ⟨hx, hb, hml, hown, hts⟩ (c_J0_isLatin1_aae02 l dC dI cI cB cZ adK adV kt i hi) (cwV 0 hts gJ0_charAt_5068e_J0_isLatin1_aae02 rfl rfl rfl (by decide +kernel) ⟨Nat.le_of_ble_eq_true rfl, Nat.le_of_ble_eq_true rfl⟩) hP hK [] rfl [0, 1, 2] rfl (zX_bl _) (zX_go hE hS _ (fun _ h => h)) (vk_recv hE.2.1 hi hS) rfl hl.1 rfl (Nat.le_of_ble_eq_true rfl) dJ0_charAt_5068e_1 ⟨Nat.zero_le _, Nat.zero_le _⟩ ?_
  refine zv_if_eq (tgt := 16) hx hb (by omega) dJ0_charAt_5068e_4 (by decide) (fun q => by exfalso; omega) (fun _ => ?_)
  refine lv_aload_n hx hb dJ0_charAt_5068e_7 rfl (lv_at hl 0 rfl) ?_
  refine vk_getf hx hb (hE.2.1.1 i hi).2.2.1 hS hown (hts (.fieldLink RJ0 9 "java/lang/String" "value" "[B") (by decide +kernel)) (fun _ h => h) dJ0_charAt_5068e_8 ?_
  refine lv_iload_n hx hb dJ0_charAt_5068e_11 rfl (lv_at hl 1 rfl) ?_
  refine zv_callRS (As := [.ref (adV i), .int (zI k)]) (rest := []) ⟨hx, hb, hml, hown, hts⟩ (c_J1_charAt_3b067 l dC dI cI cB cZ adK adV kt i k hi hk) (va_cwS 2 hts gJ0_charAt_5068e_J1_charAt_3b067 rfl rfl rfl (by decide +kernel) ⟨Nat.le_of_ble_eq_true rfl, Nat.le_of_ble_eq_true rfl⟩) hP hK [] rfl [0, 1, 2] rfl (zX_bl _) (zX_go hE hS _ (fun _ h => h)) rfl hl.1 rfl (Nat.le_of_ble_eq_true rfl) dJ0_charAt_5068e_12 ⟨Nat.zero_le _, Nat.zero_le _⟩ ?_
  exact zr_zret hx hb hr hlocks (z_i2cz hcb).2 rfl dJ0_charAt_5068e_15
