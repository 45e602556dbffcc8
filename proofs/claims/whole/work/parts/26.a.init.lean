/-! constructors: contracts that make cells -/
def QC {S : Type} (D : va_G) (cl : List vw_C) (A : Nat → Prop) (w' : S → va_W) : Array Value → State → Outcome → State → Prop :=
  fun _ st oc t => (∃ u : S, oc = .returned none ∧ va_P D cl (w' u) t.heap ∧ va_D A (w' u)) ∧ va_F A st t
def MetC {S : Type} (l : Launch) (y : MethodName) (ws : List Cond) (rm : Room) (D : va_G) (cl : List vw_C) (tys : List (ClassId × FieldType)) (E : State → Prop) (w : va_W) (av : List Value) (w' : S → va_W) (mc ms : Nat) : Prop :=
  ∀ sz : Nat, Met l y ws rm (va_Pc av (fun U => U.heap.size = sz ∧ va_P D cl w U.heap ∧ va_K D cl tys U ∧ va_D (fun _ => True) w ∧ E U)) (QC D cl (va_A w sz) w') mc ms (va_A w sz)
theorem MetC.intro {S : Type} {l : Launch} {y : MethodName} {ws ws' : List Cond} {rm : Room} {D : va_G} {cl : List vw_C} {tys : List (ClassId × FieldType)} {E : State → Prop} {w : va_W} {av : List Value} {w' : S → va_W} {mc ms : Nat} {cc : ByteArray} {maxL : Nat} {ret : Option FieldType}
    (hy : plainName y.cls = true) (hw : ws = Cond.code y cc maxL ret :: ws') (hn : (lg_sl av).length ≤ maxL)
    (body : ∀ (p : Program) (e : Env) (s : State) (m : MethodId) (args : Array Value) (below : List Frame) (meth : Method) (c : Code) (A : Nat → Prop), p.tables.exec = Jvm.exec → c.code = cc → meth.sig.returnType = ret → meth.locks = false → c.maxLocals = maxL → meth.name = y.name → (∀ w ∈ ws, w.before args s = true) → s.vm.findClass y.cls = some m.cls → va_P D cl w s.heap → va_K D cl tys s → va_D A w → va_S A s.heap s.heap [] → (∀ q : Nat, s.heap.size ≤ q → A q) → E s → ∀ ls : Array Slot, lv_has ls maxL (lv_args 0 av) →
      W p l e rm s m args below meth c s.heap [] 0 0 (MQ below (QC D cl A w') args s mc ms A) (F0 m 0 ls [])) : MetC l y ws rm D cl tys E w av w' mc ms := by
  intro sz
  refine Met.ofW (cc := cc) (maxL := maxL) (ret := ret) hy hw ?_
  intro p e s m args below meth c s₁ B hml hv
  obtain ⟨rfl, hsz, hP, hK, hD0, hE⟩ := hv
  subst hsz
  have hl := lv_entry av (n := maxL) hn
  rw [lg_entry_eq]
  exact body p e s m _ below meth c _ B.exec B.bytes B.returns B.notSynchronized hml (name_of_methodNamed B.named B.method).1 (atoms_spec (ws := ws) B.pre) (findClass_of_methodNamed B.named) hP hK (hD0.self (sz := s.heap.size)) va_S.rf (fun q h => Or.inr h) hE _ hl
def zM (U : State) : Prop := va_Nw (.methodLinkNest RX5 9 yX3_init RX5) U ∧ va_Nw (.methodLinkNest RX5 18 yX0_init RX5) U ∧ va_Nw (.methodLinkNest RX5 28 yX1_init RX5) U ∧ va_Nw (.methodLinkNest RX5 41 yX4_init RX5) U
theorem zM_0 {U : State} (h : zM U) : va_Nw (.methodLinkNest RX5 9 yX3_init RX5) U := h.1
theorem zM_1 {U : State} (h : zM U) : va_Nw (.methodLinkNest RX5 18 yX0_init RX5) U := h.2.1
theorem zM_2 {U : State} (h : zM U) : va_Nw (.methodLinkNest RX5 28 yX1_init RX5) U := h.2.2.1
theorem zM_3 {U : State} (h : zM U) : va_Nw (.methodLinkNest RX5 41 yX4_init RX5) U := h.2.2.2
theorem zM_go {s : State} {H : Heap} (h : zM s) : ∀ U : State, U.heap = H → s.WarmedH U.vm → zM U := fun U _ hW => ⟨h.1.warmM hW, h.2.1.warmM hW, h.2.2.1.warmM hW, h.2.2.2.warmM hW⟩
theorem zM_bl : zBl zM := fun U g mk a h => ⟨va_Nw.same rfl rfl h.1, va_Nw.same rfl rfl h.2.1, va_Nw.same rfl rfl h.2.2.1, va_Nw.same rfl rfl h.2.2.2⟩
theorem zb_0B (N : Nat) (cA : ClassId) (ty : FieldType) (h : defaultValue ty = .int 0) : vp_cell cA (N, .inl (zA (fun _ => 0))) = arrV cA N (fun _ => defaultValue ty) := by
  rw [zA_0, h]
  rfl
section ZI
variable {p : Program} {l : Launch} {e : Env} {R : Room} {s : State} {m : MethodId} {args : Array Value} {below : List Frame} {meth : Method} {c : Code} {H : Heap} {locs : List Loc} {cells slots : Nat} {Q : State → Prop}
variable {cc bytes : ByteArray} {pc nL n index maxL mc ms : Nat} {ls : Array Slot} {rest As st0 : List Value} {D : va_G} {cl : List vw_C} {A : Nat → Prop} {b : Nat} {tys tyc : List (ClassId × FieldType)} {ws w wr : va_W} {H0 : Heap} {y : MethodName} {wy Ts : List Cond} {rm : Room} {own : String} {cI cB cZ : ClassId}
theorem zv_newa (hx : p.tables.exec = Jvm.exec) (hb : c.code = cc) (harr : (Cond.arrayClass .int).before args s = true) (hK : va_K D cl (zT cI cB cZ) s) (hP : va_P D cl ws H) (hD : va_D A ws) (hS : va_S A H0 H locs) (hA : ∀ q, H0.size ≤ q → A q) {z : Int} {N : Nat} (hN : zI z = Int32.ofNat N) (hN2 : N < 10000) (hcells : cells + 1 ≤ R.cells) (hslots : slots + N ≤ R.slots) (hdg : decode cc pc = .ok (.newarray .int, 2))
    (kk : ∀ (q : Nat) (H1 : Heap), va_P D cl (ws ++ [(q, .inl (cI, N, .inl (zA (fun _ => 0))))]) H1 → va_D A (ws ++ [(q, .inl (cI, N, .inl (zA (fun _ => 0))))]) → va_S A H0 H1 locs → W p l e R s m args below meth c H1 locs (cells + 1) (slots + N) Q (F0 m (pc + 2) ls (.ref q :: rest))) : W p l e R s m args below meth c H locs cells slots Q (F0 m pc ls (.int (zI z) :: rest)) := by
  rw [hN]
  refine va_newa (atype := .int) (ty := .int) (a0 := (N, .inl (zA (fun _ => 0)))) hx hb harr rfl hK hP hD hS hA (fun cA => zb_0B N cA .int rfl) (nI_pos (n := N) (by omega)) (nI_clamp (n := N) (by omega)) (by show N * 4 ≤ 536870912; omega) hcells hslots hdg (fun q cA H1 hK1 hP1 hD1 hS1 => ?_)
  have e1 := (hK1.2 3 _ rfl).2
  have e2 := (hK.2 0 _ rfl).2
  have e3 : cA = cI := Option.some.inj (e1.symm.trans e2)
  subst e3
  exact kk q H1 hP1 hD1 hS1
theorem zv_newaB (hx : p.tables.exec = Jvm.exec) (hb : c.code = cc) (harr : (Cond.arrayClass .byte).before args s = true) (hK : va_K D cl (zT cI cB cZ) s) (hP : va_P D cl ws H) (hD : va_D A ws) (hS : va_S A H0 H locs) (hA : ∀ q, H0.size ≤ q → A q) {z : Int} {N : Nat} (hN : zI z = Int32.ofNat N) (hN2 : N < 10000) (hcells : cells + 1 ≤ R.cells) (hslots : slots + N ≤ R.slots) (hdg : decode cc pc = .ok (.newarray .byte, 2))
    (kk : ∀ (q : Nat) (H1 : Heap), va_P D cl (ws ++ [(q, .inl (cB, N, .inl (zA (fun _ => 0))))]) H1 → va_D A (ws ++ [(q, .inl (cB, N, .inl (zA (fun _ => 0))))]) → va_S A H0 H1 locs → W p l e R s m args below meth c H1 locs (cells + 1) (slots + N) Q (F0 m (pc + 2) ls (.ref q :: rest))) : W p l e R s m args below meth c H locs cells slots Q (F0 m pc ls (.int (zI z) :: rest)) := by
  rw [hN]
  refine va_newa (atype := .byte) (ty := .byte) (a0 := (N, .inl (zA (fun _ => 0)))) hx hb harr rfl hK hP hD hS hA (fun cA => zb_0B N cA .byte rfl) (nI_pos (n := N) (by omega)) (nI_clamp (n := N) (by omega)) (by show N * 1 ≤ 536870912; omega) hcells hslots hdg (fun q cA H1 hK1 hP1 hD1 hS1 => ?_)
  have e1 := (hK1.2 3 _ rfl).2
  have e2 := (hK.2 1 _ rfl).2
  have e3 : cA = cB := Option.some.inj (e1.symm.trans e2)
  subst e3
  exact kk q H1 hP1 hD1 hS1
theorem zv_newaZ (hx : p.tables.exec = Jvm.exec) (hb : c.code = cc) (harr : (Cond.arrayClass .boolean).before args s = true) (hK : va_K D cl (zT cI cB cZ) s) (hP : va_P D cl ws H) (hD : va_D A ws) (hS : va_S A H0 H locs) (hA : ∀ q, H0.size ≤ q → A q) {z : Int} {N : Nat} (hN : zI z = Int32.ofNat N) (hN2 : N < 10000) (hcells : cells + 1 ≤ R.cells) (hslots : slots + N ≤ R.slots) (hdg : decode cc pc = .ok (.newarray .boolean, 2))
    (kk : ∀ (q : Nat) (H1 : Heap), va_P D cl (ws ++ [(q, .inl (cZ, N, .inl (zA (fun _ => 0))))]) H1 → va_D A (ws ++ [(q, .inl (cZ, N, .inl (zA (fun _ => 0))))]) → va_S A H0 H1 locs → W p l e R s m args below meth c H1 locs (cells + 1) (slots + N) Q (F0 m (pc + 2) ls (.ref q :: rest))) : W p l e R s m args below meth c H locs cells slots Q (F0 m pc ls (.int (zI z) :: rest)) := by
  rw [hN]
  refine va_newa (atype := .boolean) (ty := .boolean) (a0 := (N, .inl (zA (fun _ => 0)))) hx hb harr rfl hK hP hD hS hA (fun cA => zb_0B N cA .boolean rfl) (nI_pos (n := N) (by omega)) (nI_clamp (n := N) (by omega)) (by show N * 1 ≤ 536870912; omega) hcells hslots hdg (fun q cA H1 hK1 hP1 hD1 hS1 => ?_)
  have e1 := (hK1.2 3 _ rfl).2
  have e2 := (hK.2 2 _ rfl).2
  have e3 : cA = cZ := Option.some.inj (e1.symm.trans e2)
  subst e3
  exact kk q H1 hP1 hD1 hS1
theorem zv_backC {S : Type} {w' : S → va_W} {a : Array Value} (hr : va_Run p l e R s m args below meth c H locs cells slots mc ms (F0 m pc ls st0) rest (QC D cl (va_A w H.size) w' a) (va_A w H.size)) (hP : va_P D cl ws H) (hD : va_D A ws) (hS : va_S A H0 H locs) (hA : ∀ q : Nat, H0.size ≤ q → A q) (isC : List Nat) (hC : isC.map (fun i => ws[i]?) = w.map some) (isR : List Nat) (hR : isR.map (fun i => ws[i]?) = wr.map some) (hnR : va_nd isR = true) (hdis : ∀ i ∈ isR, i ∉ isC)
    (kk : ∀ (u : S) (H1 : Heap) (locs1 : List Loc), va_P D cl (wr ++ w' u) H1 → va_D A (wr ++ w' u) → va_S A H0 H1 locs1 → W p l e R s m args below meth c H1 locs1 (cells + mc) (slots + ms) Q (F0 m (pc + 3) ls rest)) : W p l e R s m args below meth c H locs cells slots Q (F0 m pc ls st0) := by
  have hF := va_free (wc := w) hD hS hA isC hC
  intro T hT X
  obtain ⟨v, st₀, t, T', L, h0, X', hL, e1, e2, ⟨⟨u, hv, hb, hd⟩, hz, hk⟩, st⟩ := hr T hT X
  cases hv
  rw [h0] at hz hk
  rw [← e1] at hb hz hk
  obtain ⟨hP1, hD1⟩ := va_join hP hD isC isR hC hR hnR hdis hk hF hb hd
  obtain ⟨t2, a1, b1⟩ := kk u T'.heap (locs ++ L) hP1 hD1
    ⟨Nat.le_trans hS.1 hz, fun q h1 h2 => by rw [hk q (Nat.lt_of_lt_of_le h1 hS.1) (fun z => h2 (hF q z))]; exact hS.2.1 q h1 h2, fun q hq => by
      rcases List.mem_append.mp hq with h | h
      · exact hS.2.2 q h
      · exact hF _ (hL q h)⟩ T' rfl X'
  exact ⟨t2, st t2 a1, b1⟩
theorem zC_P (hP : va_P D cl ws H) (isC : List Nat) (hC : isC.map (fun i => ws[i]?) = w.map some) : va_P D cl w H := fun k x hx => by
  have h1 : (isC.map (fun i => ws[i]?))[k]? = some (some x) := by rw [hC, List.getElem?_map, hx]; rfl
  rw [List.getElem?_map] at h1
  cases hi : isC[k]? with
  | none => rw [hi] at h1; cases h1
  | some i => rw [hi] at h1; exact hP i x (Option.some.inj h1)
theorem zv_callCN {S : Type} {w' : S → va_W} {E : State → Prop} {host : String} (F : CallFix p m c cc nL s args Ts own) (hM : MetC l y wy rm D cl tyc E w (.ref b :: As) w' mc ms) (cw : va_CN R s args own index y host bytes maxL none wy rm mc ms n ∧ y.name = "<init>" ∧ (Cond.instanceMethod y).before args s = true) (hP : va_P D cl ws H) (hD : va_D A ws) (hS : va_S A H0 H locs) (hA : ∀ q : Nat, H0.size ≤ q → A q) (hK : va_K D cl tys s) (isC : List Nat) (hC : isC.map (fun i => ws[i]?) = w.map some) (hn9 : va_nd isC = true) (isR : List Nat) (hR : isR.map (fun i => ws[i]?) = wr.map some) (hnR : va_nd isR = true) (hdis : ∀ i ∈ isR, i ∉ isC) (isT : List Nat) (hT : isT.filterMap (fun i => tys[i]?) = tyc) (hEb : zBl E) (hE : ∀ U : State, U.heap = H → s.WarmedH U.vm → E U)
    (hn : As.length = n) (hsize : ls.size = nL) (hstack : st0 = As.reverse ++ .ref b :: rest) (hW : (rest.map fun v => v.category).sum ≤ 8) (hdg : decode cc pc = .ok (.invokespecial index, 3)) (hf : cells + mc ≤ R.cells ∧ slots + ms ≤ R.slots)
    (kk : ∀ (u : S) (H1 : Heap) (locs1 : List Loc), va_P D cl (wr ++ w' u) H1 → va_D A (wr ++ w' u) → va_S A H0 H1 locs1 → W p l e R s m args below meth c H1 locs1 (cells + mc) (slots + ms) Q (F0 m (pc + 3) ls rest)) : W p l e R s m args below meth c H locs cells slots Q (F0 m pc ls st0) := by
  have hPc := zC_P hP isC hC
  have hKc := hK.sub isT hT
  have hDc := hD.sub isC hn9 hC
  exact zv_backC (va_runIN F (hM H.size) cw ⟨fun a U g mk q => by obtain ⟨q0, q1, qP, qK, qD, qE⟩ := q; exact ⟨q0, q1, qP, va_K.moved (u := U) (U := U.calling g mk a) (Vm.Alike.refl U.vm) qK, qD, hEb _ _ _ _ qE⟩, fun U hU hW => ⟨rfl, by rw [hU], by rw [hU]; exact hPc, va_K.moved hW.alike hKc, hDc.weaken (fun _ _ _ _ => trivial), hE U hU hW⟩⟩ rfl hn hsize hstack (lv_room hW) hdg hf) hP hD hS hA isC hC isR hR hnR hdis kk
theorem zv_callCI {S : Type} {w' : S → va_W} {E : State → Prop} (F : CallFix p m c cc nL s args Ts own) (hM : MetC l y wy rm D cl tyc E w (.ref b :: As) w' mc ms) (cw : CallB R s args own index y bytes maxL none wy rm mc ms n ∧ y.name = "<init>" ∧ (Cond.instanceMethod y).before args s = true) (hP : va_P D cl ws H) (hD : va_D A ws) (hS : va_S A H0 H locs) (hA : ∀ q : Nat, H0.size ≤ q → A q) (hK : va_K D cl tys s) (isC : List Nat) (hC : isC.map (fun i => ws[i]?) = w.map some) (hn9 : va_nd isC = true) (isR : List Nat) (hR : isR.map (fun i => ws[i]?) = wr.map some) (hnR : va_nd isR = true) (hdis : ∀ i ∈ isR, i ∉ isC) (isT : List Nat) (hT : isT.filterMap (fun i => tys[i]?) = tyc) (hEb : zBl E) (hE : ∀ U : State, U.heap = H → s.WarmedH U.vm → E U)
    (hn : As.length = n) (hsize : ls.size = nL) (hstack : st0 = As.reverse ++ .ref b :: rest) (hW : (rest.map fun v => v.category).sum ≤ 8) (hdg : decode cc pc = .ok (.invokespecial index, 3)) (hf : cells + mc ≤ R.cells ∧ slots + ms ≤ R.slots)
    (kk : ∀ (u : S) (H1 : Heap) (locs1 : List Loc), va_P D cl (wr ++ w' u) H1 → va_D A (wr ++ w' u) → va_S A H0 H1 locs1 → W p l e R s m args below meth c H1 locs1 (cells + mc) (slots + ms) Q (F0 m (pc + 3) ls rest)) : W p l e R s m args below meth c H locs cells slots Q (F0 m pc ls st0) := by
  have hPc := zC_P hP isC hC
  have hKc := hK.sub isT hT
  have hDc := hD.sub isC hn9 hC
  exact zv_backC (va_runI F (hM H.size) cw ⟨fun a U g mk q => by obtain ⟨q0, q1, qP, qK, qD, qE⟩ := q; exact ⟨q0, q1, qP, va_K.moved (u := U) (U := U.calling g mk a) (Vm.Alike.refl U.vm) qK, qD, hEb _ _ _ _ qE⟩, fun U hU hW => ⟨rfl, by rw [hU], by rw [hU]; exact hPc, va_K.moved hW.alike hKc, hDc.weaken (fun _ _ _ _ => trivial), hE U hU hW⟩⟩ rfl hn hsize hstack (lv_room hW) hdg hf) hP hD hS hA isC hC isR hR hnR hdis kk
end ZI
set_option maxHeartbeats 4000000 in
set_option maxRecDepth 100000 in
theorem c_X0_init (l : Launch) (dC : Nat → ClassId) (dI : Nat → Nat → Nat) (cI cB cZ : ClassId) (h0 : Nat) : MetC (S := Nat × Nat × Nat × Nat) l yX0_init wsX0_init ({ frames := 1, cells := 4, slots := 36, locals := 12 } : Room) (dC, dI) vwCl (zT cI cB cZ) zE0 [(h0, .inr (0, [.int (zI 0), .null, .null, .null, .null]))] [.ref h0] (fun u => [(h0, .inr (0, [.int (zI 0), .ref u.1, .ref u.2.1, .ref u.2.2.1, .ref u.2.2.2])), (u.1, .inl (cI, 9, .inl (zA ((fun _ => 0))))), (u.2.1, .inl (cI, 9, .inl (zA ((fun _ => 0))))), (u.2.2.1, .inl (cI, 9, .inl (zA ((fun _ => 0))))), (u.2.2.2, .inl (cI, 9, .inl (zA ((fun _ => 0)))))]) 4 36 := by
  refine MetC.intro (cc := cX0_init) (maxL := 1) (ret := none) (by decide) rfl (Nat.le_of_ble_eq_true rfl) ?_
  intro p e s m args below meth c A hx hb hr hlocks hml hin hts hown hP hK hD hS hA hE ls hl
  have hown : s.vm.findClass RX0 = some m.cls := hown
  have hl : lv_has ls 1 [(0, .ref h0)] := hl
  generalize hQQ : MQ below (QC (S := Nat × Nat × Nat × Nat) (dC, dI) vwCl A (fun u => [(h0, .inr (0, [.int (zI 0), .ref u.1, .ref u.2.1, .ref u.2.2.1, .ref u.2.2.2])), (u.1, .inl (cI, 9, .inl (zA ((fun _ => 0))))), (u.2.1, .inl (cI, 9, .inl (zA ((fun _ => 0))))), (u.2.2.1, .inl (cI, 9, .inl (zA ((fun _ => 0))))), (u.2.2.2, .inl (cI, 9, .inl (zA ((fun _ => 0)))))])) args s 4 36 A = QQ
  have in_X0 : ∀ w ∈ wsX00, w ∈ wsX0_init := by decide +kernel
  have w_0 := hts (.arrayClass .int) (by decide +kernel)
  have w_1 := hts (.fieldLink RX0 9 "WallMarbles$House" "sorts" "[I") (by decide +kernel)
  have w_2 := hts (.fieldLink RX0 15 "WallMarbles$House" "lefts" "[I") (by decide +kernel)
  have w_3 := hts (.fieldLink RX0 18 "WallMarbles$House" "rights" "[I") (by decide +kernel)
  have w_4 := hts (.fieldLink RX0 21 "WallMarbles$House" "turns" "[I") (by decide +kernel)
  refine lv_aload_n hx hb dX0_init_0 rfl (lv_at hl 0 rfl) ?_
  refine W.objInit hx hb hown (hts (.methodLink RX0 3 objectInit) (by decide +kernel)) (hts (.instanceMethod objectInit) (by decide +kernel)) (hts _ (List.mem_cons_of_mem _ (List.mem_append_left _ (List.mem_of_getElem? (i := 2) rfl)))) rfl (by rw [hml]; exact hl.1) rfl dX0_init_1 (Nat.le_of_ble_eq_true rfl) (Nat.le_of_ble_eq_true rfl) ?_
  refine W.eq (g2 := F0 m 4 ls []) rfl ?_
  refine lv_aload_n hx hb dX0_init_4 rfl (lv_at hl 0 rfl) ?_
  refine zv_bipush hx hb dX0_init_5 (by decide +kernel) ?_
  refine zv_newa (N := 9) hx hb w_0 hK hP hD hS hA (by decide +kernel) (by decide) (Nat.le_of_ble_eq_true rfl) (Nat.le_of_ble_eq_true rfl) dX0_init_7 (fun h1 H hP hD hS => ?_)
  have hP : va_P (dC, dI) vwCl [(h0, .inr (0, [.int (zI 0), .null, .null, .null, .null])), (h1, .inl (cI, 9, .inl (zA ((fun _ => 0)))))] H := hP
  have hD : va_D A [(h0, .inr (0, [.int (zI 0), .null, .null, .null, .null])), (h1, .inl (cI, 9, .inl (zA ((fun _ => 0)))))] := hD
  refine W.widen (k := 1) (n := 9) (by omega) (by omega) ?_
  refine va_putF (D := (dC, dI)) (ci := 0) (v := .ref h1) (ty := .array .int) (C := RX0) (T := TX0) (N := 5) hx hb hts in_X0 tyX0 tyX0_ok nmX0 hown hK hP hD hS 0 rfl rfl 1 (by decide) w_1 (fun _ h9 => h9) rfl hin rfl (by decide +kernel) rfl rfl (Nat.le_of_ble_eq_true rfl) dX0_init_9 (fun H locs hP hD hS => ?_)
  have hP : va_P (dC, dI) vwCl [(h0, .inr (0, [.int (zI 0), .ref h1, .null, .null, .null])), (h1, .inl (cI, 9, .inl (zA ((fun _ => 0)))))] H := hP
  have hD : va_D A [(h0, .inr (0, [.int (zI 0), .ref h1, .null, .null, .null])), (h1, .inl (cI, 9, .inl (zA ((fun _ => 0)))))] := hD
  refine lv_aload_n hx hb dX0_init_12 rfl (lv_at hl 0 rfl) ?_
  refine zv_bipush hx hb dX0_init_13 (by decide +kernel) ?_
  refine zv_newa (N := 9) hx hb w_0 hK hP hD hS hA (by decide +kernel) (by decide) (Nat.le_of_ble_eq_true rfl) (Nat.le_of_ble_eq_true rfl) dX0_init_15 (fun h2 H hP hD hS => ?_)
  have hP : va_P (dC, dI) vwCl [(h0, .inr (0, [.int (zI 0), .ref h1, .null, .null, .null])), (h1, .inl (cI, 9, .inl (zA ((fun _ => 0))))), (h2, .inl (cI, 9, .inl (zA ((fun _ => 0)))))] H := hP
  have hD : va_D A [(h0, .inr (0, [.int (zI 0), .ref h1, .null, .null, .null])), (h1, .inl (cI, 9, .inl (zA ((fun _ => 0))))), (h2, .inl (cI, 9, .inl (zA ((fun _ => 0)))))] := hD
  refine W.widen (k := 2) (n := 18) (by omega) (by omega) ?_
  refine va_putF (D := (dC, dI)) (ci := 0) (v := .ref h2) (ty := .array .int) (C := RX0) (T := TX0) (N := 5) hx hb hts in_X0 tyX0 tyX0_ok nmX0 hown hK hP hD hS 0 rfl rfl 2 (by decide) w_2 (fun _ h9 => h9) rfl hin rfl (by decide +kernel) rfl rfl (Nat.le_of_ble_eq_true rfl) dX0_init_17 (fun H locs hP hD hS => ?_)
  have hP : va_P (dC, dI) vwCl [(h0, .inr (0, [.int (zI 0), .ref h1, .ref h2, .null, .null])), (h1, .inl (cI, 9, .inl (zA ((fun _ => 0))))), (h2, .inl (cI, 9, .inl (zA ((fun _ => 0)))))] H := hP
  have hD : va_D A [(h0, .inr (0, [.int (zI 0), .ref h1, .ref h2, .null, .null])), (h1, .inl (cI, 9, .inl (zA ((fun _ => 0))))), (h2, .inl (cI, 9, .inl (zA ((fun _ => 0)))))] := hD
  refine lv_aload_n hx hb dX0_init_20 rfl (lv_at hl 0 rfl) ?_
  refine zv_bipush hx hb dX0_init_21 (by decide +kernel) ?_
  refine zv_newa (N := 9) hx hb w_0 hK hP hD hS hA (by decide +kernel) (by decide) (Nat.le_of_ble_eq_true rfl) (Nat.le_of_ble_eq_true rfl) dX0_init_23 (fun h3 H hP hD hS => ?_)
  have hP : va_P (dC, dI) vwCl [(h0, .inr (0, [.int (zI 0), .ref h1, .ref h2, .null, .null])), (h1, .inl (cI, 9, .inl (zA ((fun _ => 0))))), (h2, .inl (cI, 9, .inl (zA ((fun _ => 0))))), (h3, .inl (cI, 9, .inl (zA ((fun _ => 0)))))] H := hP
  have hD : va_D A [(h0, .inr (0, [.int (zI 0), .ref h1, .ref h2, .null, .null])), (h1, .inl (cI, 9, .inl (zA ((fun _ => 0))))), (h2, .inl (cI, 9, .inl (zA ((fun _ => 0))))), (h3, .inl (cI, 9, .inl (zA ((fun _ => 0)))))] := hD
  refine W.widen (k := 3) (n := 27) (by omega) (by omega) ?_
  refine va_putF (D := (dC, dI)) (ci := 0) (v := .ref h3) (ty := .array .int) (C := RX0) (T := TX0) (N := 5) hx hb hts in_X0 tyX0 tyX0_ok nmX0 hown hK hP hD hS 0 rfl rfl 3 (by decide) w_3 (fun _ h9 => h9) rfl hin rfl (by decide +kernel) rfl rfl (Nat.le_of_ble_eq_true rfl) dX0_init_25 (fun H locs hP hD hS => ?_)
  have hP : va_P (dC, dI) vwCl [(h0, .inr (0, [.int (zI 0), .ref h1, .ref h2, .ref h3, .null])), (h1, .inl (cI, 9, .inl (zA ((fun _ => 0))))), (h2, .inl (cI, 9, .inl (zA ((fun _ => 0))))), (h3, .inl (cI, 9, .inl (zA ((fun _ => 0)))))] H := hP
  have hD : va_D A [(h0, .inr (0, [.int (zI 0), .ref h1, .ref h2, .ref h3, .null])), (h1, .inl (cI, 9, .inl (zA ((fun _ => 0))))), (h2, .inl (cI, 9, .inl (zA ((fun _ => 0))))), (h3, .inl (cI, 9, .inl (zA ((fun _ => 0)))))] := hD
  refine lv_aload_n hx hb dX0_init_28 rfl (lv_at hl 0 rfl) ?_
  refine zv_bipush hx hb dX0_init_29 (by decide +kernel) ?_
  refine zv_newa (N := 9) hx hb w_0 hK hP hD hS hA (by decide +kernel) (by decide) (Nat.le_of_ble_eq_true rfl) (Nat.le_of_ble_eq_true rfl) dX0_init_31 (fun h4 H hP hD hS => ?_)
  have hP : va_P (dC, dI) vwCl [(h0, .inr (0, [.int (zI 0), .ref h1, .ref h2, .ref h3, .null])), (h1, .inl (cI, 9, .inl (zA ((fun _ => 0))))), (h2, .inl (cI, 9, .inl (zA ((fun _ => 0))))), (h3, .inl (cI, 9, .inl (zA ((fun _ => 0))))), (h4, .inl (cI, 9, .inl (zA ((fun _ => 0)))))] H := hP
  have hD : va_D A [(h0, .inr (0, [.int (zI 0), .ref h1, .ref h2, .ref h3, .null])), (h1, .inl (cI, 9, .inl (zA ((fun _ => 0))))), (h2, .inl (cI, 9, .inl (zA ((fun _ => 0))))), (h3, .inl (cI, 9, .inl (zA ((fun _ => 0))))), (h4, .inl (cI, 9, .inl (zA ((fun _ => 0)))))] := hD
  refine W.widen (k := 4) (n := 36) (by omega) (by omega) ?_
  refine va_putF (D := (dC, dI)) (ci := 0) (v := .ref h4) (ty := .array .int) (C := RX0) (T := TX0) (N := 5) hx hb hts in_X0 tyX0 tyX0_ok nmX0 hown hK hP hD hS 0 rfl rfl 4 (by decide) w_4 (fun _ h9 => h9) rfl hin rfl (by decide +kernel) rfl rfl (Nat.le_of_ble_eq_true rfl) dX0_init_33 (fun H locs hP hD hS => ?_)
  have hP : va_P (dC, dI) vwCl [(h0, .inr (0, [.int (zI 0), .ref h1, .ref h2, .ref h3, .ref h4])), (h1, .inl (cI, 9, .inl (zA ((fun _ => 0))))), (h2, .inl (cI, 9, .inl (zA ((fun _ => 0))))), (h3, .inl (cI, 9, .inl (zA ((fun _ => 0))))), (h4, .inl (cI, 9, .inl (zA ((fun _ => 0)))))] H := hP
  have hD : va_D A [(h0, .inr (0, [.int (zI 0), .ref h1, .ref h2, .ref h3, .ref h4])), (h1, .inl (cI, 9, .inl (zA ((fun _ => 0))))), (h2, .inl (cI, 9, .inl (zA ((fun _ => 0))))), (h3, .inl (cI, 9, .inl (zA ((fun _ => 0))))), (h4, .inl (cI, 9, .inl (zA ((fun _ => 0)))))] := hD
  rw [← hQQ]
  exact W.vret hx hb hr (fun t ht hW => ⟨⟨(h1, h2, h3, h4), rfl, by rw [ht]; exact hP.sub [0, 1, 2, 3, 4] rfl, hD.sub [0, 1, 2, 3, 4] (by decide) rfl⟩, hS.F ht⟩) hS.2.2 dX0_init_36 hlocks
set_option maxHeartbeats 4000000 in
set_option maxRecDepth 100000 in
theorem c_X1_init (l : Launch) (dC : Nat → ClassId) (dI : Nat → Nat → Nat) (cI cB cZ : ClassId) (p0 : Nat) : MetC (S := Nat × Nat) l yX1_init wsX1_init ({ frames := 1, cells := 2, slots := 29, locals := 12 } : Room) (dC, dI) vwCl (zT cI cB cZ) zE0 [(p0, .inr (1, [.int (zI 0), .int (zI 0), .int (zI 0), .int (zI 0), .null, .null]))] [.ref p0] (fun u => [(p0, .inr (1, [.int (zI 0), .int (zI ((-9))), .int (zI 0), .int (zI 0), .ref u.1, .ref u.2])), (u.1, .inl (cI, 9, .inl (zA ((fun _ => 0))))), (u.2, .inl (cI, 20, .inl (zA ((fun _ => 0)))))]) 2 29 := by
  refine MetC.intro (cc := cX1_init) (maxL := 1) (ret := none) (by decide) rfl (Nat.le_of_ble_eq_true rfl) ?_
  intro p e s m args below meth c A hx hb hr hlocks hml hin hts hown hP hK hD hS hA hE ls hl
  have hown : s.vm.findClass RX1 = some m.cls := hown
  have hl : lv_has ls 1 [(0, .ref p0)] := hl
  generalize hQQ : MQ below (QC (S := Nat × Nat) (dC, dI) vwCl A (fun u => [(p0, .inr (1, [.int (zI 0), .int (zI ((-9))), .int (zI 0), .int (zI 0), .ref u.1, .ref u.2])), (u.1, .inl (cI, 9, .inl (zA ((fun _ => 0))))), (u.2, .inl (cI, 20, .inl (zA ((fun _ => 0)))))])) args s 2 29 A = QQ
  have in_X1 : ∀ w ∈ wsX10, w ∈ wsX1_init := by decide +kernel
  have w_0 := hts (.fieldLink RX1 9 "WallMarbles$Present" "lodged" "I") (by decide +kernel)
  have w_1 := hts (.arrayClass .int) (by decide +kernel)
  have w_2 := hts (.fieldLink RX1 15 "WallMarbles$Present" "atLandings" "[I") (by decide +kernel)
  have w_3 := hts (.fieldLink RX1 19 "WallMarbles$Present" "ahead" "[I") (by decide +kernel)
  refine lv_aload_n hx hb dX1_init_0 rfl (lv_at hl 0 rfl) ?_
  refine W.objInit hx hb hown (hts (.methodLink RX1 3 objectInit) (by decide +kernel)) (hts (.instanceMethod objectInit) (by decide +kernel)) (hts _ (List.mem_cons_of_mem _ (List.mem_append_left _ (List.mem_of_getElem? (i := 2) rfl)))) rfl (by rw [hml]; exact hl.1) rfl dX1_init_1 (Nat.le_of_ble_eq_true rfl) (Nat.le_of_ble_eq_true rfl) ?_
  refine W.eq (g2 := F0 m 4 ls []) rfl ?_
  refine lv_aload_n hx hb dX1_init_4 rfl (lv_at hl 0 rfl) ?_
  refine zv_bipush hx hb dX1_init_5 (by decide +kernel) ?_
  refine va_put (D := (dC, dI)) (ci := 1) (v := .int (zI ((-9)))) (ty := .int) (C := RX1) (T := TX1) (N := 6) hx hb hts in_X1 tyX1 tyX1_ok nmX1 hown hK hP hD hS 0 rfl rfl 1 (by decide) w_0 (fun _ h9 => h9) rfl (by decide +kernel) rfl rfl (Nat.le_of_ble_eq_true rfl) dX1_init_7 (fun H locs hP hD hS => ?_)
  have hP : va_P (dC, dI) vwCl [(p0, .inr (1, [.int (zI 0), .int (zI ((-9))), .int (zI 0), .int (zI 0), .null, .null]))] H := hP
  have hD : va_D A [(p0, .inr (1, [.int (zI 0), .int (zI ((-9))), .int (zI 0), .int (zI 0), .null, .null]))] := hD
  refine lv_aload_n hx hb dX1_init_10 rfl (lv_at hl 0 rfl) ?_
  refine zv_bipush hx hb dX1_init_11 (by decide +kernel) ?_
  refine zv_newa (N := 9) hx hb w_1 hK hP hD hS hA (by decide +kernel) (by decide) (Nat.le_of_ble_eq_true rfl) (Nat.le_of_ble_eq_true rfl) dX1_init_13 (fun p1 H hP hD hS => ?_)
  have hP : va_P (dC, dI) vwCl [(p0, .inr (1, [.int (zI 0), .int (zI ((-9))), .int (zI 0), .int (zI 0), .null, .null])), (p1, .inl (cI, 9, .inl (zA ((fun _ => 0)))))] H := hP
  have hD : va_D A [(p0, .inr (1, [.int (zI 0), .int (zI ((-9))), .int (zI 0), .int (zI 0), .null, .null])), (p1, .inl (cI, 9, .inl (zA ((fun _ => 0)))))] := hD
  refine W.widen (k := 1) (n := 9) (by omega) (by omega) ?_
  refine va_putF (D := (dC, dI)) (ci := 1) (v := .ref p1) (ty := .array .int) (C := RX1) (T := TX1) (N := 6) hx hb hts in_X1 tyX1 tyX1_ok nmX1 hown hK hP hD hS 0 rfl rfl 4 (by decide) w_2 (fun _ h9 => h9) rfl hin rfl (by decide +kernel) rfl rfl (Nat.le_of_ble_eq_true rfl) dX1_init_15 (fun H locs hP hD hS => ?_)
  have hP : va_P (dC, dI) vwCl [(p0, .inr (1, [.int (zI 0), .int (zI ((-9))), .int (zI 0), .int (zI 0), .ref p1, .null])), (p1, .inl (cI, 9, .inl (zA ((fun _ => 0)))))] H := hP
  have hD : va_D A [(p0, .inr (1, [.int (zI 0), .int (zI ((-9))), .int (zI 0), .int (zI 0), .ref p1, .null])), (p1, .inl (cI, 9, .inl (zA ((fun _ => 0)))))] := hD
  refine lv_aload_n hx hb dX1_init_18 rfl (lv_at hl 0 rfl) ?_
  refine zv_bipush hx hb dX1_init_19 (by decide +kernel) ?_
  refine zv_newa (N := 20) hx hb w_1 hK hP hD hS hA (by decide +kernel) (by decide) (Nat.le_of_ble_eq_true rfl) (Nat.le_of_ble_eq_true rfl) dX1_init_21 (fun p2 H hP hD hS => ?_)
  have hP : va_P (dC, dI) vwCl [(p0, .inr (1, [.int (zI 0), .int (zI ((-9))), .int (zI 0), .int (zI 0), .ref p1, .null])), (p1, .inl (cI, 9, .inl (zA ((fun _ => 0))))), (p2, .inl (cI, 20, .inl (zA ((fun _ => 0)))))] H := hP
  have hD : va_D A [(p0, .inr (1, [.int (zI 0), .int (zI ((-9))), .int (zI 0), .int (zI 0), .ref p1, .null])), (p1, .inl (cI, 9, .inl (zA ((fun _ => 0))))), (p2, .inl (cI, 20, .inl (zA ((fun _ => 0)))))] := hD
  refine W.widen (k := 2) (n := 29) (by omega) (by omega) ?_
  refine va_putF (D := (dC, dI)) (ci := 1) (v := .ref p2) (ty := .array .int) (C := RX1) (T := TX1) (N := 6) hx hb hts in_X1 tyX1 tyX1_ok nmX1 hown hK hP hD hS 0 rfl rfl 5 (by decide) w_3 (fun _ h9 => h9) rfl hin rfl (by decide +kernel) rfl rfl (Nat.le_of_ble_eq_true rfl) dX1_init_23 (fun H locs hP hD hS => ?_)
  have hP : va_P (dC, dI) vwCl [(p0, .inr (1, [.int (zI 0), .int (zI ((-9))), .int (zI 0), .int (zI 0), .ref p1, .ref p2])), (p1, .inl (cI, 9, .inl (zA ((fun _ => 0))))), (p2, .inl (cI, 20, .inl (zA ((fun _ => 0)))))] H := hP
  have hD : va_D A [(p0, .inr (1, [.int (zI 0), .int (zI ((-9))), .int (zI 0), .int (zI 0), .ref p1, .ref p2])), (p1, .inl (cI, 9, .inl (zA ((fun _ => 0))))), (p2, .inl (cI, 20, .inl (zA ((fun _ => 0)))))] := hD
  rw [← hQQ]
  exact W.vret hx hb hr (fun t ht hW => ⟨⟨(p1, p2), rfl, by rw [ht]; exact hP.sub [0, 1, 2] rfl, hD.sub [0, 1, 2] (by decide) rfl⟩, hS.F ht⟩) hS.2.2 dX1_init_26 hlocks
set_option maxHeartbeats 4000000 in
set_option maxRecDepth 100000 in
theorem c_X3_init (l : Launch) (dC : Nat → ClassId) (dI : Nat → Nat → Nat) (cI cB cZ : ClassId) (x0 : Nat) : MetC (S := Nat) l yX3_init wsX3_init ({ frames := 1, cells := 1, slots := 200, locals := 12 } : Room) (dC, dI) vwCl (zT cI cB cZ) zE0 [(x0, .inr (2, [.int (zI 0), .null, .int (zI 0), .int (zI 0), .int (zI 0), .int (zI 0), .int (zI 0)]))] [.ref x0] (fun u => [(x0, .inr (2, [.int (zI 0), .ref u, .int (zI 0), .int (zI 0), .int (zI 0), .int (zI 0), .int (zI 0)])), (u, .inl (cI, 200, .inl (zA ((fun _ => 0)))))]) 1 200 := by
  refine MetC.intro (cc := cX3_init) (maxL := 1) (ret := none) (by decide) rfl (Nat.le_of_ble_eq_true rfl) ?_
  intro p e s m args below meth c A hx hb hr hlocks hml hin hts hown hP hK hD hS hA hE ls hl
  have hown : s.vm.findClass RX3 = some m.cls := hown
  have hl : lv_has ls 1 [(0, .ref x0)] := hl
  generalize hQQ : MQ below (QC (S := Nat) (dC, dI) vwCl A (fun u => [(x0, .inr (2, [.int (zI 0), .ref u, .int (zI 0), .int (zI 0), .int (zI 0), .int (zI 0), .int (zI 0)])), (u, .inl (cI, 200, .inl (zA ((fun _ => 0)))))])) args s 1 200 A = QQ
  have in_X3 : ∀ w ∈ wsX30, w ∈ wsX3_init := by decide +kernel
  have w_0 := hts (.arrayClass .int) (by decide +kernel)
  have w_1 := hts (.fieldLink RX3 9 "WallMarbles$Text" "bytes" "[I") (by decide +kernel)
  refine lv_aload_n hx hb dX3_init_0 rfl (lv_at hl 0 rfl) ?_
  refine W.objInit hx hb hown (hts (.methodLink RX3 3 objectInit) (by decide +kernel)) (hts (.instanceMethod objectInit) (by decide +kernel)) (hts _ (List.mem_cons_of_mem _ (List.mem_append_left _ (List.mem_of_getElem? (i := 2) rfl)))) rfl (by rw [hml]; exact hl.1) rfl dX3_init_1 (Nat.le_of_ble_eq_true rfl) (Nat.le_of_ble_eq_true rfl) ?_
  refine W.eq (g2 := F0 m 4 ls []) rfl ?_
  refine lv_aload_n hx hb dX3_init_4 rfl (lv_at hl 0 rfl) ?_
  refine zv_sipush hx hb dX3_init_5 (by decide +kernel) ?_
  refine zv_newa (N := 200) hx hb w_0 hK hP hD hS hA (by decide +kernel) (by decide) (Nat.le_of_ble_eq_true rfl) (Nat.le_of_ble_eq_true rfl) dX3_init_8 (fun x1 H hP hD hS => ?_)
  have hP : va_P (dC, dI) vwCl [(x0, .inr (2, [.int (zI 0), .null, .int (zI 0), .int (zI 0), .int (zI 0), .int (zI 0), .int (zI 0)])), (x1, .inl (cI, 200, .inl (zA ((fun _ => 0)))))] H := hP
  have hD : va_D A [(x0, .inr (2, [.int (zI 0), .null, .int (zI 0), .int (zI 0), .int (zI 0), .int (zI 0), .int (zI 0)])), (x1, .inl (cI, 200, .inl (zA ((fun _ => 0)))))] := hD
  refine W.widen (k := 1) (n := 200) (by omega) (by omega) ?_
  refine va_putF (D := (dC, dI)) (ci := 2) (v := .ref x1) (ty := .array .int) (C := RX3) (T := TX3) (N := 7) hx hb hts in_X3 tyX3 tyX3_ok nmX3 hown hK hP hD hS 0 rfl rfl 1 (by decide) w_1 (fun _ h9 => h9) rfl hin rfl (by decide +kernel) rfl rfl (Nat.le_of_ble_eq_true rfl) dX3_init_10 (fun H locs hP hD hS => ?_)
  have hP : va_P (dC, dI) vwCl [(x0, .inr (2, [.int (zI 0), .ref x1, .int (zI 0), .int (zI 0), .int (zI 0), .int (zI 0), .int (zI 0)])), (x1, .inl (cI, 200, .inl (zA ((fun _ => 0)))))] H := hP
  have hD : va_D A [(x0, .inr (2, [.int (zI 0), .ref x1, .int (zI 0), .int (zI 0), .int (zI 0), .int (zI 0), .int (zI 0)])), (x1, .inl (cI, 200, .inl (zA ((fun _ => 0)))))] := hD
  rw [← hQQ]
  exact W.vret hx hb hr (fun t ht hW => ⟨⟨x1, rfl, by rw [ht]; exact hP.sub [0, 1] rfl, hD.sub [0, 1] (by decide) rfl⟩, hS.F ht⟩) hS.2.2 dX3_init_13 hlocks
set_option maxHeartbeats 4000000 in
set_option maxRecDepth 100000 in
theorem c_X4_init (l : Launch) (dC : Nat → ClassId) (dI : Nat → Nat → Nat) (cI cB cZ : ClassId) (t0 : Nat) : MetC (S := Nat × Nat) l yX4_init wsX4_init ({ frames := 1, cells := 2, slots := 18, locals := 12 } : Room) (dC, dI) vwCl (zT cI cB cZ) zE0 [(t0, .inr (3, [.int (zI 0), .null, .null]))] [.ref t0] (fun u => [(t0, .inr (3, [.int (zI 0), .ref u.1, .ref u.2])), (u.1, .inl (cI, 9, .inl (zA ((fun _ => 0))))), (u.2, .inl (cI, 9, .inl (zA ((fun _ => 0)))))]) 2 18 := by
  refine MetC.intro (cc := cX4_init) (maxL := 1) (ret := none) (by decide) rfl (Nat.le_of_ble_eq_true rfl) ?_
  intro p e s m args below meth c A hx hb hr hlocks hml hin hts hown hP hK hD hS hA hE ls hl
  have hown : s.vm.findClass RX4 = some m.cls := hown
  have hl : lv_has ls 1 [(0, .ref t0)] := hl
  generalize hQQ : MQ below (QC (S := Nat × Nat) (dC, dI) vwCl A (fun u => [(t0, .inr (3, [.int (zI 0), .ref u.1, .ref u.2])), (u.1, .inl (cI, 9, .inl (zA ((fun _ => 0))))), (u.2, .inl (cI, 9, .inl (zA ((fun _ => 0)))))])) args s 2 18 A = QQ
  have in_X4 : ∀ w ∈ wsX40, w ∈ wsX4_init := by decide +kernel
  have w_0 := hts (.arrayClass .int) (by decide +kernel)
  have w_1 := hts (.fieldLink RX4 9 "WallMarbles$Trials" "sizes" "[I") (by decide +kernel)
  have w_2 := hts (.fieldLink RX4 15 "WallMarbles$Trials" "comings" "[I") (by decide +kernel)
  refine lv_aload_n hx hb dX4_init_0 rfl (lv_at hl 0 rfl) ?_
  refine W.objInit hx hb hown (hts (.methodLink RX4 3 objectInit) (by decide +kernel)) (hts (.instanceMethod objectInit) (by decide +kernel)) (hts _ (List.mem_cons_of_mem _ (List.mem_append_left _ (List.mem_of_getElem? (i := 2) rfl)))) rfl (by rw [hml]; exact hl.1) rfl dX4_init_1 (Nat.le_of_ble_eq_true rfl) (Nat.le_of_ble_eq_true rfl) ?_
  refine W.eq (g2 := F0 m 4 ls []) rfl ?_
  refine lv_aload_n hx hb dX4_init_4 rfl (lv_at hl 0 rfl) ?_
  refine zv_bipush hx hb dX4_init_5 (by decide +kernel) ?_
  refine zv_newa (N := 9) hx hb w_0 hK hP hD hS hA (by decide +kernel) (by decide) (Nat.le_of_ble_eq_true rfl) (Nat.le_of_ble_eq_true rfl) dX4_init_7 (fun t1 H hP hD hS => ?_)
  have hP : va_P (dC, dI) vwCl [(t0, .inr (3, [.int (zI 0), .null, .null])), (t1, .inl (cI, 9, .inl (zA ((fun _ => 0)))))] H := hP
  have hD : va_D A [(t0, .inr (3, [.int (zI 0), .null, .null])), (t1, .inl (cI, 9, .inl (zA ((fun _ => 0)))))] := hD
  refine W.widen (k := 1) (n := 9) (by omega) (by omega) ?_
  refine va_putF (D := (dC, dI)) (ci := 3) (v := .ref t1) (ty := .array .int) (C := RX4) (T := TX4) (N := 3) hx hb hts in_X4 tyX4 tyX4_ok nmX4 hown hK hP hD hS 0 rfl rfl 1 (by decide) w_1 (fun _ h9 => h9) rfl hin rfl (by decide +kernel) rfl rfl (Nat.le_of_ble_eq_true rfl) dX4_init_9 (fun H locs hP hD hS => ?_)
  have hP : va_P (dC, dI) vwCl [(t0, .inr (3, [.int (zI 0), .ref t1, .null])), (t1, .inl (cI, 9, .inl (zA ((fun _ => 0)))))] H := hP
  have hD : va_D A [(t0, .inr (3, [.int (zI 0), .ref t1, .null])), (t1, .inl (cI, 9, .inl (zA ((fun _ => 0)))))] := hD
  refine lv_aload_n hx hb dX4_init_12 rfl (lv_at hl 0 rfl) ?_
  refine zv_bipush hx hb dX4_init_13 (by decide +kernel) ?_
  refine zv_newa (N := 9) hx hb w_0 hK hP hD hS hA (by decide +kernel) (by decide) (Nat.le_of_ble_eq_true rfl) (Nat.le_of_ble_eq_true rfl) dX4_init_15 (fun t2 H hP hD hS => ?_)
  have hP : va_P (dC, dI) vwCl [(t0, .inr (3, [.int (zI 0), .ref t1, .null])), (t1, .inl (cI, 9, .inl (zA ((fun _ => 0))))), (t2, .inl (cI, 9, .inl (zA ((fun _ => 0)))))] H := hP
  have hD : va_D A [(t0, .inr (3, [.int (zI 0), .ref t1, .null])), (t1, .inl (cI, 9, .inl (zA ((fun _ => 0))))), (t2, .inl (cI, 9, .inl (zA ((fun _ => 0)))))] := hD
  refine W.widen (k := 2) (n := 18) (by omega) (by omega) ?_
  refine va_putF (D := (dC, dI)) (ci := 3) (v := .ref t2) (ty := .array .int) (C := RX4) (T := TX4) (N := 3) hx hb hts in_X4 tyX4 tyX4_ok nmX4 hown hK hP hD hS 0 rfl rfl 2 (by decide) w_2 (fun _ h9 => h9) rfl hin rfl (by decide +kernel) rfl rfl (Nat.le_of_ble_eq_true rfl) dX4_init_17 (fun H locs hP hD hS => ?_)
  have hP : va_P (dC, dI) vwCl [(t0, .inr (3, [.int (zI 0), .ref t1, .ref t2])), (t1, .inl (cI, 9, .inl (zA ((fun _ => 0))))), (t2, .inl (cI, 9, .inl (zA ((fun _ => 0)))))] H := hP
  have hD : va_D A [(t0, .inr (3, [.int (zI 0), .ref t1, .ref t2])), (t1, .inl (cI, 9, .inl (zA ((fun _ => 0))))), (t2, .inl (cI, 9, .inl (zA ((fun _ => 0)))))] := hD
  rw [← hQQ]
  exact W.vret hx hb hr (fun t ht hW => ⟨⟨(t1, t2), rfl, by rw [ht]; exact hP.sub [0, 1, 2] rfl, hD.sub [0, 1, 2] (by decide) rfl⟩, hS.F ht⟩) hS.2.2 dX4_init_20 hlocks
