/-! contracts in two forms: MetR reads alone and answers v; MetW writes its world w and leaves w' u -/
def zE0 : State → Prop := fun _ => True
def zBl (E : State → Prop) : Prop := ∀ (U : State) (g : JFrame) (mk : MethodId) (a : Array Value), E U → E (U.calling g mk a)
def MetR (l : Launch) (y : MethodName) (ws : List Cond) (rm : Room) (D : va_G) (cl : List vw_C) (tys : List (ClassId × FieldType)) (E : State → Prop) (w : va_W) (av : List Value) (v : Int32) : Prop :=
  Met l y ws rm (va_Pc av (fun U => va_P D cl w U.heap ∧ va_K D cl tys U ∧ E U)) (vp_Si (fun r => r = v)) 0 0 (fun _ => False)
def QW {S : Type} (D : va_G) (cl : List vw_C) (A : Nat → Prop) (rv : S → Option Value) (w' : S → va_W) (post : S → Prop) : Array Value → State → Outcome → State → Prop :=
  fun _ st oc t => (∃ u : S, oc = .returned (rv u) ∧ post u ∧ va_P D cl (w' u) t.heap) ∧ va_F A st t
def MetW {S : Type} (l : Launch) (y : MethodName) (ws : List Cond) (rm : Room) (D : va_G) (cl : List vw_C) (tys : List (ClassId × FieldType)) (E : State → Prop) (w : va_W) (av : List Value) (rv : S → Option Value) (w' : S → va_W) (post : S → Prop) : Prop :=
  ∀ sz : Nat, Met l y ws rm (va_Pc av (fun U => U.heap.size = sz ∧ va_P D cl w U.heap ∧ va_K D cl tys U ∧ va_D (fun _ => True) w ∧ E U)) (QW D cl (va_A w sz) rv w' post) 0 0 (va_A w sz)
theorem MetR.intro {l : Launch} {y : MethodName} {ws ws' : List Cond} {rm : Room} {D : va_G} {cl : List vw_C} {tys : List (ClassId × FieldType)} {E : State → Prop} {w : va_W} {av : List Value} {v : Int32} {cc : ByteArray} {maxL : Nat} {ret : Option FieldType}
    (hy : plainName y.cls = true) (hw : ws = Cond.code y cc maxL ret :: ws') (hn : (lg_sl av).length ≤ maxL)
    (body : ∀ (p : Program) (e : Env) (s : State) (m : MethodId) (args : Array Value) (below : List Frame) (meth : Method) (c : Code), p.tables.exec = Jvm.exec → c.code = cc → meth.sig.returnType = ret → meth.locks = false → c.maxLocals = maxL → (∀ w ∈ ws, w.before args s = true) → s.vm.findClass y.cls = some m.cls → va_P D cl w s.heap → va_K D cl tys s → E s → ∀ ls : Array Slot, lv_has ls maxL (lv_args 0 av) →
      W p l e rm s m args below meth c s.heap [] 0 0 (MQ below (vp_Si (fun r => r = v)) args s 0 0 (fun _ => False)) (F0 m 0 ls [])) : MetR l y ws rm D cl tys E w av v := by
  refine Met.ofW (cc := cc) (maxL := maxL) (ret := ret) hy hw ?_
  intro p e s m args below meth c s₁ B hml hv
  obtain ⟨rfl, hP, hK, hE⟩ := hv
  have hl := lv_entry av (n := maxL) hn
  rw [lg_entry_eq]
  exact body p e s m _ below meth c B.exec B.bytes B.returns B.notSynchronized hml (atoms_spec (ws := ws) B.pre) (findClass_of_methodNamed B.named) hP hK hE _ hl
theorem MetW.intro {S : Type} {l : Launch} {y : MethodName} {ws ws' : List Cond} {rm : Room} {D : va_G} {cl : List vw_C} {tys : List (ClassId × FieldType)} {E : State → Prop} {w : va_W} {av : List Value} {rv : S → Option Value} {w' : S → va_W} {post : S → Prop} {cc : ByteArray} {maxL : Nat} {ret : Option FieldType}
    (hy : plainName y.cls = true) (hw : ws = Cond.code y cc maxL ret :: ws') (hn : (lg_sl av).length ≤ maxL)
    (body : ∀ (p : Program) (e : Env) (s : State) (m : MethodId) (args : Array Value) (below : List Frame) (meth : Method) (c : Code) (A : Nat → Prop), p.tables.exec = Jvm.exec → c.code = cc → meth.sig.returnType = ret → meth.locks = false → c.maxLocals = maxL → (∀ w ∈ ws, w.before args s = true) → s.vm.findClass y.cls = some m.cls → va_P D cl w s.heap → va_K D cl tys s → va_D A w → va_S A s.heap s.heap [] → (∀ q : Nat, s.heap.size ≤ q → A q) → E s → ∀ ls : Array Slot, lv_has ls maxL (lv_args 0 av) →
      W p l e rm s m args below meth c s.heap [] 0 0 (MQ below (QW D cl A rv w' post) args s 0 0 A) (F0 m 0 ls [])) : MetW l y ws rm D cl tys E w av rv w' post := by
  intro sz
  refine Met.ofW (cc := cc) (maxL := maxL) (ret := ret) hy hw ?_
  intro p e s m args below meth c s₁ B hml hv
  obtain ⟨rfl, hsz, hP, hK, hD0, hE⟩ := hv
  subst hsz
  have hl := lv_entry av (n := maxL) hn
  rw [lg_entry_eq]
  exact body p e s m _ below meth c _ B.exec B.bytes B.returns B.notSynchronized hml (atoms_spec (ws := ws) B.pre) (findClass_of_methodNamed B.named) hP hK (hD0.self (sz := s.heap.size)) va_S.rf (fun q h => Or.inr h) hE _ hl
/-- the world with the callee's cells put back at their places -/
def zP (ws : va_W) : List Nat → va_W → va_W
  | i :: is, x :: xs => zP (ws.set i x) is xs
  | _, _ => ws
theorem zP_len : ∀ (is : List Nat) (ws xs : va_W), (zP ws is xs).length = ws.length
  | [], _, _ => by simp [zP]
  | _ :: _, _, [] => by simp [zP]
  | i :: is, ws, x :: xs => by simp [zP, zP_len is]
theorem zP_at : ∀ (is : List Nat) (ws xs : va_W) (k : Nat) (q : Nat × va_E), (zP ws is xs)[k]? = some q → (∃ j : Nat, is[j]? = some k ∧ xs[j]? = some q) ∨ (ws[k]? = some q ∧ ∀ j : Nat, j < xs.length → is[j]? ≠ some k)
  | [], ws, xs, k, q, h => Or.inr ⟨by simpa [zP] using h, fun j _ e => by simp at e⟩
  | i :: is, ws, [], k, q, h => Or.inr ⟨by simpa [zP] using h, fun j hj => by simp at hj⟩
  | i :: is, ws, x :: xs, k, q, h => by
    rcases zP_at is (ws.set i x) xs k q (by simpa [zP] using h) with ⟨j, h1, h2⟩ | ⟨h1, h2⟩
    · exact Or.inl ⟨j + 1, by simpa using h1, by simpa using h2⟩
    · by_cases hk : i = k
      · subst hk
        have hlt : i < ws.length := by
          have := (List.getElem?_eq_some_iff.mp h1).1
          simpa using this
        rw [List.getElem?_set_self hlt] at h1
        exact Or.inl ⟨0, rfl, by simpa using h1⟩
      · rw [List.getElem?_set_ne hk] at h1
        refine Or.inr ⟨h1, fun j hj e => ?_⟩
        cases j with
        | zero => exact hk (by simpa using e)
        | succ j => exact h2 j (by simpa using hj) (by simpa using e)
theorem zP_join {A : Nat → Prop} {D : va_G} {cl : List vw_C} {ws w w1 : va_W} {H H1 : Heap} (hP : va_P D cl ws H) (hD : va_D A ws) (is : List Nat) (hC : is.map (fun i => ws[i]?) = w.map some) (ha : w1.map (fun x => x.1) = w.map (fun x => x.1))
    (hk : ∀ q : Nat, q < H.size → ¬ va_A w H.size q → H1[q]? = H[q]?) (hP1 : va_P D cl w1 H1) : va_P D cl (zP ws is w1) H1 ∧ va_D A (zP ws is w1) := by
  have hlen : is.length = w.length := by simpa using congrArg List.length hC
  have hlen1 : w1.length = w.length := by simpa using congrArg List.length ha
  have at' : ∀ (j i : Nat), is[j]? = some i → ∃ x, w[j]? = some x ∧ ws[i]? = some x := by
    intro j i h
    have h1 : (is.map (fun i => ws[i]?))[j]? = some (ws[i]?) := by rw [List.getElem?_map, h]; rfl
    rw [hC, List.getElem?_map] at h1
    cases hx : w[j]? with
    | none => rw [hx] at h1; cases h1
    | some x => rw [hx] at h1; exact ⟨x, rfl, (Option.some.inj h1).symm⟩
  have ad' : ∀ (j : Nat) (x y : Nat × va_E), w1[j]? = some x → w[j]? = some y → x.1 = y.1 := by
    intro j x y h1 h2
    have h3 : (w1.map (fun x => x.1))[j]? = some x.1 := by rw [List.getElem?_map, h1]; rfl
    rw [ha, List.getElem?_map, h2] at h3
    exact (Option.some.inj h3).symm
  have adr : ∀ (k : Nat) (q : Nat × va_E), (zP ws is w1)[k]? = some q → ∃ x, ws[k]? = some x ∧ x.1 = q.1 := by
    intro k q h
    rcases zP_at is ws w1 k q h with ⟨j, h1, h2⟩ | ⟨h1, -⟩
    · obtain ⟨x, h3, h4⟩ := at' j k h1
      exact ⟨x, h4, (ad' j q x h2 h3).symm⟩
    · exact ⟨q, h1, rfl⟩
  refine ⟨fun k q h => ?_, fun i j x y hx hy hxy => ?_, fun k q h => ?_⟩
  · rcases zP_at is ws w1 k q h with ⟨j, h1, h2⟩ | ⟨h1, h2⟩
    · exact hP1 j q h2
    · refine (hP k q h1).kept (hk q.1 (hP k q h1).lt (fun z => ?_))
      rcases z with ⟨j, e, z⟩ | z
      · have hj : j < w.length := (List.getElem?_eq_some_iff.mp z).1
        have hi : is[j]? = some is[j] := List.getElem?_eq_getElem (by omega)
        obtain ⟨x, h3, h4⟩ := at' j _ hi
        have hxe : x = (q.1, e) := Option.some.inj (h3.symm.trans z)
        have := hD.1 _ _ x q h4 h1 (by rw [hxe])
        exact h2 j (by omega) (by rw [hi, this])
      · have := (hP k q h1).lt
        omega
  · obtain ⟨x', h1, h2⟩ := adr i x hx
    obtain ⟨y', h3, h4⟩ := adr j y hy
    exact hD.1 i j x' y' h1 h3 (by rw [h2, h4, hxy])
  · obtain ⟨x', h1, h2⟩ := adr k q h
    rw [← h2]
    exact hD.2 k x' h1
section ZC
variable {p : Program} {l : Launch} {e : Env} {R : Room} {s : State} {m : MethodId} {args : Array Value} {below : List Frame} {meth : Method} {c : Code} {H : Heap} {locs : List Loc} {cells slots : Nat} {Q : State → Prop}
variable {cc bytes : ByteArray} {pc nL n index maxL : Nat} {ls : Array Slot} {rest As st0 : List Value} {D : va_G} {cl : List vw_C} {A : Nat → Prop} {b : Nat} {tys tyc : List (ClassId × FieldType)} {ws w : va_W} {H0 : Heap} {y : MethodName} {wy Ts : List Cond} {rm : Room} {E : State → Prop} {v : Int32} {own C : String} {ret : Option FieldType}
theorem zv_callRV (F : CallFix p m c cc nL s args Ts own) (hM : MetR l y wy rm D cl tyc E w (.ref b :: As) v) (cw : CallW R s args own C index y bytes maxL ret wy rm 0 0 n) (hP : va_P D cl ws H) (hK : va_K D cl tys s) (isC : List Nat) (hC : isC.filterMap (fun i => ws[i]?) = w) (isT : List Nat) (hT : isT.filterMap (fun i => tys[i]?) = tyc) (hEb : zBl E) (hE : ∀ U : State, U.heap = H → s.WarmedH U.vm → E U)
    {q0 ci : Nat} {q : vw_C} {fs : List Value} (he : w[q0]? = some (b, .inr (ci, fs))) (hc : cl[ci]? = some q) (hq : q.1 = C) (hn : As.length = n) (hsize : ls.size = nL) (hstack : st0 = As.reverse ++ .ref b :: rest) (hW : (rest.map fun v => v.category).sum ≤ 8) (hdg : decode cc pc = .ok (.invokevirtual index, 3)) (hf : cells ≤ R.cells ∧ slots ≤ R.slots)
    (kk : W p l e R s m args below meth c H locs cells slots Q (F0 m (pc + 3) ls (.int v :: rest))) : W p l e R s m args below meth c H locs cells slots Q (F0 m pc ls st0) := by
  subst hq
  have hPc := hP.sub isC hC
  have hKc := hK.sub isT hT
  exact vp_callSi (W.runV F hM cw ⟨fun a U g mk q => by obtain ⟨q0, qP, qK, qE⟩ := q; exact ⟨q0, qP, va_K.moved (u := U) (U := U.calling g mk a) (Vm.Alike.refl U.vm) qK, hEb _ _ _ _ qE⟩, va_recv hKc hPc hc he, fun U hU hW => ⟨rfl, by rw [hU]; exact hPc, va_K.moved hW.alike hKc, hE U hU hW⟩⟩ rfl hn hsize hstack (lv_room hW) hdg hf) (fun r h => by rw [h]; exact kk)
theorem zv_callRS (F : CallFix p m c cc nL s args Ts own) (hM : MetR l y wy rm D cl tyc E w As v) (cw : CallB R s args own index y bytes maxL ret wy rm 0 0 n ∧ (Cond.static y).before args s = true) (hP : va_P D cl ws H) (hK : va_K D cl tys s) (isC : List Nat) (hC : isC.filterMap (fun i => ws[i]?) = w) (isT : List Nat) (hT : isT.filterMap (fun i => tys[i]?) = tyc) (hEb : zBl E) (hE : ∀ U : State, U.heap = H → s.WarmedH U.vm → E U)
    (hn : As.length = n) (hsize : ls.size = nL) (hstack : st0 = As.reverse ++ rest) (hW : (rest.map fun v => v.category).sum ≤ 8) (hdg : decode cc pc = .ok (.invokestatic index, 3)) (hf : cells ≤ R.cells ∧ slots ≤ R.slots)
    (kk : W p l e R s m args below meth c H locs cells slots Q (F0 m (pc + 3) ls (.int v :: rest))) : W p l e R s m args below meth c H locs cells slots Q (F0 m pc ls st0) := by
  have hPc := hP.sub isC hC
  have hKc := hK.sub isT hT
  exact vp_callSi (W.runS F hM cw ⟨fun a U g mk q => by obtain ⟨q0, qP, qK, qE⟩ := q; exact ⟨q0, qP, va_K.moved (u := U) (U := U.calling g mk a) (Vm.Alike.refl U.vm) qK, hEb _ _ _ _ qE⟩, fun U hU hW => ⟨rfl, by rw [hU]; exact hPc, va_K.moved hW.alike hKc, hE U hU hW⟩⟩ rfl hn hsize hstack (lv_room hW) hdg hf) (fun r h => by rw [h]; exact kk)
/-- behind a call that writes: the callee's cells as it left them, the rest as it was -/
theorem zv_backW {S : Type} {rv : S → Option Value} {w' : S → va_W} {post : S → Prop} {a : Array Value} (hr : va_Run p l e R s m args below meth c H locs cells slots 0 0 (F0 m pc ls st0) rest (QW D cl (va_A w H.size) rv w' post a) (va_A w H.size)) (hP : va_P D cl ws H) (hD : va_D A ws) (hS : va_S A H0 H locs) (hA : ∀ q : Nat, H0.size ≤ q → A q) (isC : List Nat) (hC : isC.map (fun i => ws[i]?) = w.map some) (ha : ∀ u, (w' u).map (fun x => x.1) = w.map (fun x => x.1)) {ws2 : S → va_W} (h2 : ∀ u, zP ws isC (w' u) = ws2 u)
    (kk : ∀ (u : S) (H1 : Heap) (locs1 : List Loc), post u → va_P D cl (ws2 u) H1 → va_D A (ws2 u) → va_S A H0 H1 locs1 → W p l e R s m args below meth c H1 locs1 cells slots Q (F0 m (pc + 3) ls ((rv u).toList ++ rest))) : W p l e R s m args below meth c H locs cells slots Q (F0 m pc ls st0) := by
  have hF := va_free (wc := w) hD hS hA isC hC
  intro T hT X
  obtain ⟨v, st₀, t, T', L, h0, X', hL, e1, e2, ⟨⟨u, hv, hp, hb⟩, hz, hk⟩, st⟩ := hr T hT X
  cases hv
  rw [h0] at hz hk
  rw [← e1] at hb hz hk
  obtain ⟨hP1, hD1⟩ := zP_join hP hD isC hC (ha u) hk hb
  rw [h2] at hP1 hD1
  obtain ⟨t2, a1, b1⟩ := kk u T'.heap (locs ++ L) hp hP1 hD1
    ⟨Nat.le_trans hS.1 hz, fun q h1 h2 => by rw [hk q (Nat.lt_of_lt_of_le h1 hS.1) (fun z => h2 (hF q z))]; exact hS.2.1 q h1 h2, fun q hq => by
      rcases List.mem_append.mp hq with h | h
      · exact hS.2.2 q h
      · exact hF _ (hL q h)⟩ T' rfl X'
  exact ⟨t2, st t2 a1, b1⟩
theorem zv_callWV {S : Type} {rv : S → Option Value} {w' : S → va_W} {post : S → Prop} (F : CallFix p m c cc nL s args Ts own) (hM : MetW l y wy rm D cl tyc E w (.ref b :: As) rv w' post) (cw : CallW R s args own C index y bytes maxL ret wy rm 0 0 n) (hP : va_P D cl ws H) (hD : va_D A ws) (hS : va_S A H0 H locs) (hA : ∀ q : Nat, H0.size ≤ q → A q) (hK : va_K D cl tys s) (isC : List Nat) (hC : isC.map (fun i => ws[i]?) = w.map some) (hn9 : va_nd isC = true) (isT : List Nat) (hT : isT.filterMap (fun i => tys[i]?) = tyc) (hEb : zBl E) (hE : ∀ U : State, U.heap = H → s.WarmedH U.vm → E U)
    (ha : ∀ u, (w' u).map (fun x => x.1) = w.map (fun x => x.1)) {ws2 : S → va_W} (h2 : ∀ u, zP ws isC (w' u) = ws2 u)
    {q0 ci : Nat} {q : vw_C} {fs : List Value} (he : w[q0]? = some (b, .inr (ci, fs))) (hc : cl[ci]? = some q) (hq : q.1 = C) (hn : As.length = n) (hsize : ls.size = nL) (hstack : st0 = As.reverse ++ .ref b :: rest) (hW : (rest.map fun v => v.category).sum ≤ 8) (hdg : decode cc pc = .ok (.invokevirtual index, 3)) (hf : cells ≤ R.cells ∧ slots ≤ R.slots)
    (kk : ∀ (u : S) (H1 : Heap) (locs1 : List Loc), post u → va_P D cl (ws2 u) H1 → va_D A (ws2 u) → va_S A H0 H1 locs1 → W p l e R s m args below meth c H1 locs1 cells slots Q (F0 m (pc + 3) ls ((rv u).toList ++ rest))) : W p l e R s m args below meth c H locs cells slots Q (F0 m pc ls st0) := by
  subst hq
  have hPc : va_P D cl w H := fun k x hx => by
    have h1 : (isC.map (fun i => ws[i]?))[k]? = some (some x) := by rw [hC, List.getElem?_map, hx]; rfl
    rw [List.getElem?_map] at h1
    cases hi : isC[k]? with
    | none => rw [hi] at h1; cases h1
    | some i => rw [hi] at h1; exact hP i x (Option.some.inj h1)
  have hKc := hK.sub isT hT
  have hDc := hD.sub isC hn9 hC
  exact zv_backW (va_runV F (hM H.size) cw ⟨fun a U g mk q => by obtain ⟨q0, q1, qP, qK, qD, qE⟩ := q; exact ⟨q0, q1, qP, va_K.moved (u := U) (U := U.calling g mk a) (Vm.Alike.refl U.vm) qK, qD, hEb _ _ _ _ qE⟩, va_recv hKc hPc hc he, fun U hU hW => ⟨rfl, by rw [hU], by rw [hU]; exact hPc, va_K.moved hW.alike hKc, hDc.weaken (fun _ _ _ _ => trivial), hE U hU hW⟩⟩ rfl hn hsize hstack (lv_room hW) hdg hf) hP hD hS hA isC hC ha h2 kk
theorem zv_callWS {S : Type} {rv : S → Option Value} {w' : S → va_W} {post : S → Prop} (F : CallFix p m c cc nL s args Ts own) (hM : MetW l y wy rm D cl tyc E w As rv w' post) (cw : CallB R s args own index y bytes maxL ret wy rm 0 0 n ∧ (Cond.static y).before args s = true) (hP : va_P D cl ws H) (hD : va_D A ws) (hS : va_S A H0 H locs) (hA : ∀ q : Nat, H0.size ≤ q → A q) (hK : va_K D cl tys s) (isC : List Nat) (hC : isC.map (fun i => ws[i]?) = w.map some) (hn9 : va_nd isC = true) (isT : List Nat) (hT : isT.filterMap (fun i => tys[i]?) = tyc) (hEb : zBl E) (hE : ∀ U : State, U.heap = H → s.WarmedH U.vm → E U)
    (ha : ∀ u, (w' u).map (fun x => x.1) = w.map (fun x => x.1)) {ws2 : S → va_W} (h2 : ∀ u, zP ws isC (w' u) = ws2 u)
    (hn : As.length = n) (hsize : ls.size = nL) (hstack : st0 = As.reverse ++ rest) (hW : (rest.map fun v => v.category).sum ≤ 8) (hdg : decode cc pc = .ok (.invokestatic index, 3)) (hf : cells ≤ R.cells ∧ slots ≤ R.slots)
    (kk : ∀ (u : S) (H1 : Heap) (locs1 : List Loc), post u → va_P D cl (ws2 u) H1 → va_D A (ws2 u) → va_S A H0 H1 locs1 → W p l e R s m args below meth c H1 locs1 cells slots Q (F0 m (pc + 3) ls ((rv u).toList ++ rest))) : W p l e R s m args below meth c H locs cells slots Q (F0 m pc ls st0) := by
  have hPc : va_P D cl w H := fun k x hx => by
    have h1 : (isC.map (fun i => ws[i]?))[k]? = some (some x) := by rw [hC, List.getElem?_map, hx]; rfl
    rw [List.getElem?_map] at h1
    cases hi : isC[k]? with
    | none => rw [hi] at h1; cases h1
    | some i => rw [hi] at h1; exact hP i x (Option.some.inj h1)
  have hKc := hK.sub isT hT
  have hDc := hD.sub isC hn9 hC
  exact zv_backW (va_runS F (hM H.size) cw ⟨fun a U g mk q => by obtain ⟨q0, q1, qP, qK, qD, qE⟩ := q; exact ⟨q0, q1, qP, va_K.moved (u := U) (U := U.calling g mk a) (Vm.Alike.refl U.vm) qK, qD, hEb _ _ _ _ qE⟩, fun U hU hW => ⟨rfl, by rw [hU], by rw [hU]; exact hPc, va_K.moved hW.alike hKc, hDc.weaken (fun _ _ _ _ => trivial), hE U hU hW⟩⟩ rfl hn hsize hstack (lv_room hW) hdg hf) hP hD hS hA isC hC ha h2 kk
/-- the ends -/
theorem zr_iret (hx : p.tables.exec = Jvm.exec) (hb : c.code = cc) (hr : meth.sig.returnType = some .int) (hlocks : meth.locks = false) {x : Int32} (hv : x = v) (hdg : decode cc pc = .ok (.ireturn, 1)) : W p l e R s m args below meth c s.heap [] 0 0 (MQ below (vp_Si (fun r => r = v)) args s 0 0 (fun _ => False)) (F0 m pc ls [.int x]) :=
  W.iret hx hb hr (fun t ht hW => ⟨_, rfl, hv, ht⟩) (fun q h => by cases h) hdg hlocks
theorem zr_zret (hx : p.tables.exec = Jvm.exec) (hb : c.code = cc) {ty : FieldType} (hr : meth.sig.returnType = some ty) (hlocks : meth.locks = false) {x : Int32} (hn : narrow ty (.int x) = .int x) (hv : x = v) (hdg : decode cc pc = .ok (.ireturn, 1)) : W p l e R s m args below meth c s.heap [] 0 0 (MQ below (vp_Si (fun r => r = v)) args s 0 0 (fun _ => False)) (F0 m pc ls [.int x]) :=
  W.zret hx hb hr hn (fun t ht hW => ⟨_, rfl, hv, ht⟩) (fun q h => by cases h) hdg hlocks
theorem zw_iret {S : Type} {rv : S → Option Value} {w' : S → va_W} {post : S → Prop} (hx : p.tables.exec = Jvm.exec) (hb : c.code = cc) (hr : meth.sig.returnType = some .int) (hlocks : meth.locks = false) {x : Int32} (u : S) (hv : rv u = some (.int x)) (hp : post u) (hP : va_P D cl (w' u) H) (hS : va_S A s.heap H locs) (hdg : decode cc pc = .ok (.ireturn, 1)) : W p l e R s m args below meth c H locs 0 0 (MQ below (QW D cl A rv w' post) args s 0 0 A) (F0 m pc ls [.int x]) :=
  W.iret hx hb hr (fun t ht hW => ⟨⟨u, by rw [hv], hp, by rw [ht]; exact hP⟩, hS.F ht⟩) hS.2.2 hdg hlocks
theorem zw_zret {S : Type} {rv : S → Option Value} {w' : S → va_W} {post : S → Prop} (hx : p.tables.exec = Jvm.exec) (hb : c.code = cc) {ty : FieldType} (hr : meth.sig.returnType = some ty) (hlocks : meth.locks = false) {x : Int32} (hn : narrow ty (.int x) = .int x) (u : S) (hv : rv u = some (.int x)) (hp : post u) (hP : va_P D cl (w' u) H) (hS : va_S A s.heap H locs) (hdg : decode cc pc = .ok (.ireturn, 1)) : W p l e R s m args below meth c H locs 0 0 (MQ below (QW D cl A rv w' post) args s 0 0 A) (F0 m pc ls [.int x]) :=
  W.zret hx hb hr hn (fun t ht hW => ⟨⟨u, by rw [hv], hp, by rw [ht]; exact hP⟩, hS.F ht⟩) hS.2.2 hdg hlocks
theorem zw_lret {S : Type} {rv : S → Option Value} {w' : S → va_W} {post : S → Prop} (hx : p.tables.exec = Jvm.exec) (hb : c.code = cc) (hr : meth.sig.returnType = some .long) (hlocks : meth.locks = false) {x : Int64} (u : S) (hv : rv u = some (.long x)) (hp : post u) (hP : va_P D cl (w' u) H) (hS : va_S A s.heap H locs) (hdg : decode cc pc = .ok (.lreturn, 1)) : W p l e R s m args below meth c H locs 0 0 (MQ below (QW D cl A rv w' post) args s 0 0 A) (F0 m pc ls [.long x]) :=
  W.lret hx hb hr (fun t ht hW => ⟨⟨u, by rw [hv], hp, by rw [ht]; exact hP⟩, hS.F ht⟩) hS.2.2 hdg hlocks
theorem zw_vret {S : Type} {rv : S → Option Value} {w' : S → va_W} {post : S → Prop} (hx : p.tables.exec = Jvm.exec) (hb : c.code = cc) (hr : meth.sig.returnType = none) (hlocks : meth.locks = false) (u : S) (hv : rv u = none) (hp : post u) (hP : va_P D cl (w' u) H) (hS : va_S A s.heap H locs) (hdg : decode cc pc = .ok (.return_, 1)) : W p l e R s m args below meth c H locs 0 0 (MQ below (QW D cl A rv w' post) args s 0 0 A) (F0 m pc ls []) :=
  W.vret hx hb hr (fun t ht hW => ⟨⟨u, by rw [hv], hp, by rw [ht]; exact hP⟩, hS.F ht⟩) hS.2.2 hdg hlocks
end ZC
theorem zE0_bl : zBl zE0 := fun _ _ _ _ _ => trivial
theorem z_nar_bool {P : Prop} [Decidable P] : narrow .boolean (.int (zI (bZ P))) = .int (zI (bZ P)) := by
  unfold bZ
  split <;> rfl
