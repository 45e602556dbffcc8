/-! calls beside a second world that the callee doesn't touch -/
theorem z2_l {A : Nat → Prop} {wc wm w0 : va_W} (hadr : (wc ++ wm).map (fun x => x.1) = w0.map (fun x => x.1)) (h : va_D A w0) : va_D A wc := by
  have hD := va_Dadr hadr h
  have up : ∀ (i : Nat) (x : Nat × va_E), wc[i]? = some x → (wc ++ wm)[i]? = some x := fun i x hx => by
    rw [List.getElem?_append_left (List.getElem?_eq_some_iff.mp hx).1]
    exact hx
  exact ⟨fun i j x y hx hy e => hD.1 i j x y (up i x hx) (up j y hy) e, fun k x hx => hD.2 k x (up k x hx)⟩
theorem z2_r {A : Nat → Prop} {wc wm w0 : va_W} (hadr : (wc ++ wm).map (fun x => x.1) = w0.map (fun x => x.1)) (h : va_D A w0) : va_D A wm := by
  have hD := va_Dadr hadr h
  have up : ∀ (i : Nat) (x : Nat × va_E), wm[i]? = some x → (wc ++ wm)[wc.length + i]? = some x := fun i x hx => by
    rw [List.getElem?_append_right (by omega), Nat.add_sub_cancel_left]
    exact hx
  exact ⟨fun i j x y hx hy e => by have := hD.1 _ _ x y (up i x hx) (up j y hy) e; omega, fun k x hx => hD.2 _ x (up k x hx)⟩
theorem z2_d {A : Nat → Prop} {wc wm w0 : va_W} (hadr : (wc ++ wm).map (fun x => x.1) = w0.map (fun x => x.1)) (h : va_D A w0) {i j : Nat} {x y : Nat × va_E} (hx : wc[i]? = some x) (hy : wm[j]? = some y) : x.1 ≠ y.1 := by
  intro e
  have hD := va_Dadr hadr h
  have h1 : (wc ++ wm)[i]? = some x := by
    rw [List.getElem?_append_left (List.getElem?_eq_some_iff.mp hx).1]
    exact hx
  have h2 : (wc ++ wm)[wc.length + j]? = some y := by
    rw [List.getElem?_append_right (by omega), Nat.add_sub_cancel_left]
    exact hy
  have := hD.1 _ _ x y h1 h2 e
  have := (List.getElem?_eq_some_iff.mp hx).1
  omega
section Z2
variable {p : Program} {l : Launch} {e : Env} {R : Room} {s : State} {m : MethodId} {args : Array Value} {below : List Frame} {meth : Method} {c : Code} {H : Heap} {locs : List Loc} {cells slots : Nat} {Q : State → Prop}
variable {cc bytes : ByteArray} {pc nL n index maxL : Nat} {ls : Array Slot} {rest As st0 : List Value} {D : va_G} {cl : List vw_C} {A : Nat → Prop} {b : Nat} {tys tyc : List (ClassId × FieldType)} {wc wm w0 w : va_W} {H0 : Heap} {y : MethodName} {wy Ts : List Cond} {rm : Room} {v : Int32} {own C : String} {ret : Option FieldType}
theorem zv_backW2 {S : Type} {rv : S → Option Value} {w' : S → va_W} {post : S → Prop} {a : Array Value} (hr : va_Run p l e R s m args below meth c H locs cells slots 0 0 (F0 m pc ls st0) rest (QW D cl (va_A w H.size) rv w' post a) (va_A w H.size)) (hPc : va_P D cl wc H) (hPm : va_P D cl wm H) (hDD : va_D A w0) (hadr : (wc ++ wm).map (fun x => x.1) = w0.map (fun x => x.1)) (hS : va_S A H0 H locs) (hA : ∀ q : Nat, H0.size ≤ q → A q) (isC : List Nat) (hC : isC.map (fun i => wc[i]?) = w.map some) (ha : ∀ u, (w' u).map (fun x => x.1) = w.map (fun x => x.1)) {ws2 : S → va_W} (h2 : ∀ u, zP wc isC (w' u) = ws2 u)
    (kk : ∀ (u : S) (H1 : Heap) (locs1 : List Loc), post u → va_P D cl (ws2 u) H1 → va_P D cl wm H1 → va_S A H0 H1 locs1 → W p l e R s m args below meth c H1 locs1 cells slots Q (F0 m (pc + 3) ls ((rv u).toList ++ rest))) : W p l e R s m args below meth c H locs cells slots Q (F0 m pc ls st0) := by
  have hDc := z2_l hadr hDD
  have hF := va_free (wc := w) hDc hS hA isC hC
  intro T hT X
  obtain ⟨v, st₀, t, T', L, h0, X', hL, e1, e2, ⟨⟨u, hv, hp, hb⟩, hz, hk⟩, st⟩ := hr T hT X
  cases hv
  rw [h0] at hz hk
  rw [← e1] at hb hz hk
  obtain ⟨hP1, hD1⟩ := zP_join hPc hDc isC hC (ha u) hk hb
  rw [h2] at hP1
  have hM1 : va_P D cl wm T'.heap := fun k x hx => by
    refine (hPm k x hx).kept (hk x.1 (hPm k x hx).lt (fun z => ?_))
    rcases z with ⟨j, e9, z⟩ | z
    · have h1 : (isC.map (fun i => wc[i]?))[j]? = some (some (x.1, e9)) := by rw [hC, List.getElem?_map, z]; rfl
      rw [List.getElem?_map] at h1
      cases hi : isC[j]? with
      | none => rw [hi] at h1; cases h1
      | some i => rw [hi] at h1; exact z2_d hadr hDD (Option.some.inj h1) hx rfl
    · have := (hPm k x hx).lt
      omega
  obtain ⟨t2, a1, b1⟩ := kk u T'.heap (locs ++ L) hp hP1 hM1
    ⟨Nat.le_trans hS.1 hz, fun q h1 h2 => by rw [hk q (Nat.lt_of_lt_of_le h1 hS.1) (fun z => h2 (hF q z))]; exact hS.2.1 q h1 h2, fun q hq => by
      rcases List.mem_append.mp hq with h | h
      · exact hS.2.2 q h
      · exact hF _ (hL q h)⟩ T' rfl X'
  exact ⟨t2, st t2 a1, b1⟩
theorem zv_callW2 {E : State → Prop} {S : Type} {rv : S → Option Value} {w' : S → va_W} {post : S → Prop} (F : CallFix p m c cc nL s args Ts own) (hM : MetW l y wy rm D cl tyc E w (.ref b :: As) rv w' post) (cw : CallW R s args own C index y bytes maxL ret wy rm 0 0 n) (hPc : va_P D cl wc H) (hPm : va_P D cl wm H) (hDD : va_D A w0) (hadr : (wc ++ wm).map (fun x => x.1) = w0.map (fun x => x.1)) (hS : va_S A H0 H locs) (hA : ∀ q : Nat, H0.size ≤ q → A q) (hK : va_K D cl tys s) (isC : List Nat) (hC : isC.map (fun i => wc[i]?) = w.map some) (hn9 : va_nd isC = true) (isT : List Nat) (hT : isT.filterMap (fun i => tys[i]?) = tyc) (hEb : zBl E) (hE : ∀ U : State, U.heap = H → s.WarmedH U.vm → E U)
    (ha : ∀ u, (w' u).map (fun x => x.1) = w.map (fun x => x.1)) {ws2 : S → va_W} (h2 : ∀ u, zP wc isC (w' u) = ws2 u)
    {q0 ci : Nat} {q : vw_C} {fs : List Value} (he : w[q0]? = some (b, .inr (ci, fs))) (hc : cl[ci]? = some q) (hq : q.1 = C) (hn : As.length = n) (hsize : ls.size = nL) (hstack : st0 = As.reverse ++ .ref b :: rest) (hW : (rest.map fun v => v.category).sum ≤ 8) (hdg : decode cc pc = .ok (.invokevirtual index, 3)) (hf : cells ≤ R.cells ∧ slots ≤ R.slots)
    (kk : ∀ (u : S) (H1 : Heap) (locs1 : List Loc), post u → va_P D cl (ws2 u) H1 → va_P D cl wm H1 → va_S A H0 H1 locs1 → W p l e R s m args below meth c H1 locs1 cells slots Q (F0 m (pc + 3) ls ((rv u).toList ++ rest))) : W p l e R s m args below meth c H locs cells slots Q (F0 m pc ls st0) := by
  subst hq
  have hPw := zC_P hPc isC hC
  have hKc := hK.sub isT hT
  have hDw := (z2_l hadr hDD).sub isC hn9 hC
  exact zv_backW2 (va_runV F (hM H.size) cw ⟨fun a U g mk q => by obtain ⟨q0, q1, qP, qK, qD, qE⟩ := q; exact ⟨q0, q1, qP, va_K.moved (u := U) (U := U.calling g mk a) (Vm.Alike.refl U.vm) qK, qD, hEb _ _ _ _ qE⟩, va_recv hKc hPw hc he, fun U hU hW => ⟨rfl, by rw [hU], by rw [hU]; exact hPw, va_K.moved hW.alike hKc, hDw.weaken (fun _ _ _ _ => trivial), hE U hU hW⟩⟩ rfl hn hsize hstack (lv_room hW) hdg hf) hPc hPm hDD hadr hS hA isC hC ha h2 kk
theorem zv_callX2 {E : (Nat → Prop) → State → Prop} {S : Type} {rv : S → Option Value} {w' : S → va_W} {post : S → Prop} (F : CallFix p m c cc nL s args Ts own) (hM : MetX l y wy rm D cl tyc E w (.ref b :: As) rv w' post) (cw : CallW R s args own C index y bytes maxL ret wy rm 0 0 n) (hPc : va_P D cl wc H) (hPm : va_P D cl wm H) (hDD : va_D A w0) (hadr : (wc ++ wm).map (fun x => x.1) = w0.map (fun x => x.1)) (hS : va_S A H0 H locs) (hA : ∀ q : Nat, H0.size ≤ q → A q) (hK : va_K D cl tys s) (isC : List Nat) (hC : isC.map (fun i => wc[i]?) = w.map some) (hn9 : va_nd isC = true) (isT : List Nat) (hT : isT.filterMap (fun i => tys[i]?) = tyc) (hEb : ∀ B : Nat → Prop, zBl (E B)) (hE : ∀ B : Nat → Prop, (∀ q : Nat, B q → A q) → ∀ U : State, U.heap = H → s.WarmedH U.vm → E B U)
    (ha : ∀ u, (w' u).map (fun x => x.1) = w.map (fun x => x.1)) {ws2 : S → va_W} (h2 : ∀ u, zP wc isC (w' u) = ws2 u)
    {q0 ci : Nat} {q : vw_C} {fs : List Value} (he : w[q0]? = some (b, .inr (ci, fs))) (hc : cl[ci]? = some q) (hq : q.1 = C) (hn : As.length = n) (hsize : ls.size = nL) (hstack : st0 = As.reverse ++ .ref b :: rest) (hW : (rest.map fun v => v.category).sum ≤ 8) (hdg : decode cc pc = .ok (.invokevirtual index, 3)) (hf : cells ≤ R.cells ∧ slots ≤ R.slots)
    (kk : ∀ (u : S) (H1 : Heap) (locs1 : List Loc), post u → va_P D cl (ws2 u) H1 → va_P D cl wm H1 → va_S A H0 H1 locs1 → W p l e R s m args below meth c H1 locs1 cells slots Q (F0 m (pc + 3) ls ((rv u).toList ++ rest))) : W p l e R s m args below meth c H locs cells slots Q (F0 m pc ls st0) := by
  subst hq
  have hPw := zC_P hPc isC hC
  have hKc := hK.sub isT hT
  have hDw := (z2_l hadr hDD).sub isC hn9 hC
  have hF := va_free (wc := w) (z2_l hadr hDD) hS hA isC hC
  exact zv_backW2 (va_runV F (hM H.size) cw ⟨fun a U g mk q => by obtain ⟨q0, q1, qP, qK, qD, qE⟩ := q; exact ⟨q0, q1, qP, va_K.moved (u := U) (U := U.calling g mk a) (Vm.Alike.refl U.vm) qK, qD, hEb _ _ _ _ _ qE⟩, va_recv hKc hPw hc he, fun U hU hW => ⟨rfl, by rw [hU], by rw [hU]; exact hPw, va_K.moved hW.alike hKc, hDw.weaken (fun _ _ _ _ => trivial), hE _ hF U hU hW⟩⟩ rfl hn hsize hstack (lv_room hW) hdg hf) hPc hPm hDD hadr hS hA isC hC ha h2 kk
/-- the second world is the callee's, whole -/
theorem zv_callWm {E : State → Prop} {S : Type} {rv : S → Option Value} {w' : S → va_W} {post : S → Prop} (F : CallFix p m c cc nL s args Ts own) (hM : MetW l y wy rm D cl tys E wm (.ref b :: As) rv w' post) (cw : CallW R s args own C index y bytes maxL ret wy rm 0 0 n) (hPc : va_P D cl wc H) (hPm : va_P D cl wm H) (hDD : va_D A w0) (hadr : (wc ++ wm).map (fun x => x.1) = w0.map (fun x => x.1)) (hS : va_S A H0 H locs) (hA : ∀ q : Nat, H0.size ≤ q → A q) (hK : va_K D cl tys s) (hEb : zBl E) (hE : ∀ U : State, U.heap = H → s.WarmedH U.vm → E U)
    {q0 ci : Nat} {q : vw_C} {fs : List Value} (he : wm[q0]? = some (b, .inr (ci, fs))) (hc : cl[ci]? = some q) (hq : q.1 = C) (hn : As.length = n) (hsize : ls.size = nL) (hstack : st0 = As.reverse ++ .ref b :: rest) (hW : (rest.map fun v => v.category).sum ≤ 8) (hdg : decode cc pc = .ok (.invokevirtual index, 3)) (hf : cells ≤ R.cells ∧ slots ≤ R.slots)
    (kk : ∀ (u : S) (H1 : Heap) (locs1 : List Loc), post u → va_P D cl wc H1 → va_P D cl (w' u) H1 → va_S A H0 H1 locs1 → W p l e R s m args below meth c H1 locs1 cells slots Q (F0 m (pc + 3) ls ((rv u).toList ++ rest))) : W p l e R s m args below meth c H locs cells slots Q (F0 m pc ls st0) := by
  subst hq
  have hDm := z2_r hadr hDD
  have hF : ∀ q : Nat, va_A wm H.size q → A q := fun q h => by
    rcases h with ⟨k, e, h⟩ | h
    · exact hDm.2 k (q, e) h
    · exact hA q (Nat.le_trans hS.1 h)
  have hr := va_runV F (hM H.size) cw (H := H) (b := b) (As := As) (rest := rest) (g := F0 m pc ls st0) (cells := cells) (slots := slots) (locs := locs) (below := below) (meth := meth) (e := e) ⟨fun a U g mk q => by obtain ⟨q0, q1, qP, qK, qD, qE⟩ := q; exact ⟨q0, q1, qP, va_K.moved (u := U) (U := U.calling g mk a) (Vm.Alike.refl U.vm) qK, qD, hEb _ _ _ _ qE⟩, va_recv hK hPm hc he, fun U hU hW => ⟨rfl, by rw [hU], by rw [hU]; exact hPm, va_K.moved hW.alike hK, hDm.weaken (fun _ _ _ _ => trivial), hE U hU hW⟩⟩ rfl hn hsize hstack (lv_room hW) hdg hf
  intro T hT X
  obtain ⟨v, st₀, t, T', L, h0, X', hL, e1, e2, ⟨⟨u, hv, hp, hb⟩, hz, hk⟩, st⟩ := hr T hT X
  cases hv
  rw [h0] at hz hk
  rw [← e1] at hb hz hk
  have hC1 : va_P D cl wc T'.heap := fun k x hx => by
    refine (hPc k x hx).kept (hk x.1 (hPc k x hx).lt (fun z => ?_))
    rcases z with ⟨j, e9, z⟩ | z
    · exact z2_d hadr hDD hx z rfl
    · have := (hPc k x hx).lt
      omega
  obtain ⟨t2, a1, b1⟩ := kk u T'.heap (locs ++ L) hp hC1 hb
    ⟨Nat.le_trans hS.1 hz, fun q h1 h2 => by rw [hk q (Nat.lt_of_lt_of_le h1 hS.1) (fun z => h2 (hF q z))]; exact hS.2.1 q h1 h2, fun q hq => by
      rcases List.mem_append.mp hq with h | h
      · exact hS.2.2 q h
      · exact hF _ (hL q h)⟩ T' rfl X'
  exact ⟨t2, st t2 a1, b1⟩
end Z2
theorem zP_ar2 {D : va_G} {cl : List vw_C} {ws ws' : va_W} {H : Heap} {q0 a n : Nat} {cA : ClassId} {f g : Int → Int} (hP : va_P D cl ws H) (ha : ws[q0]? = some (a, .inl (cA, n, .inl (zA f)))) (h : ∀ j : Int, 0 ≤ j → j < (n : Int) → f j = g j) (hw : ws.set q0 (a, .inl (cA, n, .inl (zA g))) = ws') : va_P D cl ws' H := by
  subst hw
  intro k q hq
  by_cases hk : q0 = k
  · subst hk
    have hl := (List.getElem?_eq_some_iff.mp ha).1
    rw [List.getElem?_set_self hl] at hq
    cases hq
    have h1 : H[a]? = some (vp_cell cA (n, .inl (zA f))) := hP q0 _ ha
    show H[a]? = some (vp_cell cA (n, .inl (zA g)))
    rw [h1]
    congr 1
    show arrV cA n (fun j => .int (zA f j)) = arrV cA n (fun j => .int (zA g j))
    unfold arrV
    congr 2
    funext j
    show Value.int (zI (f (j.val : Int))) = Value.int (zI (g (j.val : Int)))
    rw [h (j.val : Int) (by omega) (by have := j.isLt; omega)]
  · rw [List.getElem?_set_ne hk] at hq
    exact hP k q hq
theorem zP_ob2 {D : va_G} {cl : List vw_C} {ws ws' : va_W} {H : Heap} {q0 a ci : Nat} {fs fs' : List Value} (hP : va_P D cl ws H) (ha : ws[q0]? = some (a, .inr (ci, fs))) (h : fs = fs') (hw : ws.set q0 (a, .inr (ci, fs')) = ws') : va_P D cl ws' H := by
  subst h
  subst hw
  have e : ws.set q0 (a, .inr (ci, fs)) = ws := by
    apply List.ext_getElem?
    intro i
    by_cases q : q0 = i
    · subst q
      rw [List.getElem?_set_self (List.getElem?_eq_some_iff.mp ha).1, ha]
    · rw [List.getElem?_set_ne q]
  rw [e]
  exact hP
