/-! calls whose callee's world is the caller's whole world: nothing is cut out -/
theorem va_Dadr {A : Nat → Prop} {ws w1 : va_W} (ha : w1.map (fun x => x.1) = ws.map (fun x => x.1)) (hD : va_D A ws) : va_D A w1 := by
  have key : ∀ (k : Nat) (q : Nat × va_E), w1[k]? = some q → ∃ x, ws[k]? = some x ∧ x.1 = q.1 := by
    intro k q h
    have h1 : (w1.map (fun x => x.1))[k]? = some q.1 := by rw [List.getElem?_map, h]; rfl
    rw [ha, List.getElem?_map] at h1
    cases hx : ws[k]? with
    | none => rw [hx] at h1; cases h1
    | some x => rw [hx] at h1; exact ⟨x, rfl, Option.some.inj h1⟩
  refine ⟨fun i j p q hp hq hpq => ?_, fun k q h => ?_⟩
  · obtain ⟨x, h1, h2⟩ := key i p hp
    obtain ⟨y, h3, h4⟩ := key j q hq
    exact hD.1 i j x y h1 h3 (by rw [h2, h4, hpq])
  · obtain ⟨x, h1, h2⟩ := key k q h
    rw [← h2]
    exact hD.2 k x h1
section ZF
variable {p : Program} {l : Launch} {e : Env} {R : Room} {s : State} {m : MethodId} {args : Array Value} {below : List Frame} {meth : Method} {c : Code} {H : Heap} {locs : List Loc} {cells slots : Nat} {Q : State → Prop}
variable {cc bytes : ByteArray} {pc nL n index maxL : Nat} {ls : Array Slot} {rest As st0 : List Value} {D : va_G} {cl : List vw_C} {A : Nat → Prop} {b : Nat} {tys : List (ClassId × FieldType)} {ws : va_W} {H0 : Heap} {y : MethodName} {wy Ts : List Cond} {rm : Room} {E : State → Prop} {v : Int32} {own C : String} {ret : Option FieldType}
theorem zv_callRVa (F : CallFix p m c cc nL s args Ts own) (hM : MetR l y wy rm D cl tys E ws (.ref b :: As) v) (cw : CallW R s args own C index y bytes maxL ret wy rm 0 0 n) (hP : va_P D cl ws H) (hK : va_K D cl tys s) (hEb : zBl E) (hE : ∀ U : State, U.heap = H → s.WarmedH U.vm → E U)
    {q0 ci : Nat} {q : vw_C} {fs : List Value} (he : ws[q0]? = some (b, .inr (ci, fs))) (hc : cl[ci]? = some q) (hq : q.1 = C) (hn : As.length = n) (hsize : ls.size = nL) (hstack : st0 = As.reverse ++ .ref b :: rest) (hW : (rest.map fun v => v.category).sum ≤ 8) (hdg : decode cc pc = .ok (.invokevirtual index, 3)) (hf : cells ≤ R.cells ∧ slots ≤ R.slots)
    (kk : W p l e R s m args below meth c H locs cells slots Q (F0 m (pc + 3) ls (.int v :: rest))) : W p l e R s m args below meth c H locs cells slots Q (F0 m pc ls st0) := by
  subst hq
  exact vp_callSi (W.runV F hM cw ⟨fun a U g mk q => by obtain ⟨q0, qP, qK, qE⟩ := q; exact ⟨q0, qP, va_K.moved (u := U) (U := U.calling g mk a) (Vm.Alike.refl U.vm) qK, hEb _ _ _ _ qE⟩, va_recv hK hP hc he, fun U hU hW => ⟨rfl, by rw [hU]; exact hP, va_K.moved hW.alike hK, hE U hU hW⟩⟩ rfl hn hsize hstack (lv_room hW) hdg hf) (fun r h => by rw [h]; exact kk)
theorem zv_callWVa {S : Type} {rv : S → Option Value} {w' : S → va_W} {post : S → Prop} (F : CallFix p m c cc nL s args Ts own) (hM : MetW l y wy rm D cl tys E ws (.ref b :: As) rv w' post) (cw : CallW R s args own C index y bytes maxL ret wy rm 0 0 n) (hP : va_P D cl ws H) (hD : va_D A ws) (hS : va_S A H0 H locs) (hA : ∀ q : Nat, H0.size ≤ q → A q) (hK : va_K D cl tys s) (hEb : zBl E) (hE : ∀ U : State, U.heap = H → s.WarmedH U.vm → E U)
    (ha : ∀ u, (w' u).map (fun x => x.1) = ws.map (fun x => x.1))
    {q0 ci : Nat} {q : vw_C} {fs : List Value} (he : ws[q0]? = some (b, .inr (ci, fs))) (hc : cl[ci]? = some q) (hq : q.1 = C) (hn : As.length = n) (hsize : ls.size = nL) (hstack : st0 = As.reverse ++ .ref b :: rest) (hW : (rest.map fun v => v.category).sum ≤ 8) (hdg : decode cc pc = .ok (.invokevirtual index, 3)) (hf : cells ≤ R.cells ∧ slots ≤ R.slots)
    (kk : ∀ (u : S) (H1 : Heap) (locs1 : List Loc), post u → va_P D cl (w' u) H1 → va_D A (w' u) → va_S A H0 H1 locs1 → W p l e R s m args below meth c H1 locs1 cells slots Q (F0 m (pc + 3) ls ((rv u).toList ++ rest))) : W p l e R s m args below meth c H locs cells slots Q (F0 m pc ls st0) := by
  subst hq
  have hF : ∀ q : Nat, va_A ws H.size q → A q := fun q h => by
    rcases h with ⟨k, e, h⟩ | h
    · exact hD.2 k (q, e) h
    · exact hA q (Nat.le_trans hS.1 h)
  have hr := va_runV F (hM H.size) cw (H := H) (b := b) (As := As) (rest := rest) (g := F0 m pc ls st0) (cells := cells) (slots := slots) (locs := locs) (below := below) (meth := meth) (e := e) ⟨fun a U g mk q => by obtain ⟨q0, q1, qP, qK, qD, qE⟩ := q; exact ⟨q0, q1, qP, va_K.moved (u := U) (U := U.calling g mk a) (Vm.Alike.refl U.vm) qK, qD, hEb _ _ _ _ qE⟩, va_recv hK hP hc he, fun U hU hW => ⟨rfl, by rw [hU], by rw [hU]; exact hP, va_K.moved hW.alike hK, hD.weaken (fun _ _ _ _ => trivial), hE U hU hW⟩⟩ rfl hn hsize hstack (lv_room hW) hdg hf
  intro T hT X
  obtain ⟨v, st₀, t, T', L, h0, X', hL, e1, e2, ⟨⟨u, hv, hp, hb⟩, hz, hk⟩, st⟩ := hr T hT X
  cases hv
  rw [h0] at hz hk
  rw [← e1] at hb hz hk
  obtain ⟨t2, a1, b1⟩ := kk u T'.heap (locs ++ L) hp hb (va_Dadr (ha u) hD)
    ⟨Nat.le_trans hS.1 hz, fun q h1 h2 => by rw [hk q (Nat.lt_of_lt_of_le h1 hS.1) (fun z => h2 (hF q z))]; exact hS.2.1 q h1 h2, fun q hq => by
      rcases List.mem_append.mp hq with h | h
      · exact hS.2.2 q h
      · exact hF _ (hL q h)⟩ T' rfl X'
  exact ⟨t2, st t2 a1, b1⟩
end ZF
