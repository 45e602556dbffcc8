/-! rows over Int: every int on the stack, in a local, a field or a row of ints is zI of an Int -/
def zI (z : Int) : Int32 := Int32.ofInt z
def bZ (P : Prop) [Decidable P] : Int := if P then 1 else 0
def zA (g : Int → Int) : Nat → Int32 := fun k => zI (g (k : Int))
def zu (g : Int → Int) (i v : Int) : Int → Int := fun k => if k = i then v else g k
def zc (f g : Int → Int) (sp dp n : Int) : Int → Int := fun k => if dp ≤ k ∧ k < dp + n then f (sp + (k - dp)) else g k
theorem zI_add (a b : Int) : zI a + zI b = zI (a + b) := (Int32.ofInt_add a b).symm
theorem zI_sub (a b : Int) : zI a - zI b = zI (a - b) := (Int32.ofInt_sub a b).symm
theorem zI_mul (a b : Int) : zI a * zI b = zI (a * b) := (Int32.ofInt_mul a b).symm
theorem zI_toInt {a : Int} (h : -2147483648 ≤ a ∧ a ≤ 2147483647) : (zI a).toInt = a := Int32.toInt_ofInt_of_le (by omega) (by omega)
theorem zI_as (x : Int32) : zI x.toInt = x := Int32.ofInt_toInt x
theorem zI_rng (x : Int32) : -2147483648 ≤ x.toInt ∧ x.toInt ≤ 2147483647 := by
  have h1 := x.le_toInt
  have h2 := x.toInt_lt
  omega
theorem zI_of (x : Int32) : ∃ z : Int, x = zI z ∧ -2147483648 ≤ z ∧ z ≤ 2147483647 := ⟨x.toInt, (zI_as x).symm, zI_rng x⟩
theorem zI_lt {a b : Int} (ha : -2147483648 ≤ a ∧ a ≤ 2147483647) (hb : -2147483648 ≤ b ∧ b ≤ 2147483647) : zI a < zI b ↔ a < b := by
  rw [Int32.lt_iff_toInt_lt, zI_toInt ha, zI_toInt hb]
theorem zI_le {a b : Int} (ha : -2147483648 ≤ a ∧ a ≤ 2147483647) (hb : -2147483648 ≤ b ∧ b ≤ 2147483647) : zI a ≤ zI b ↔ a ≤ b := by
  rw [Int32.le_iff_toInt_le, zI_toInt ha, zI_toInt hb]
theorem zI_eq {a b : Int} (ha : -2147483648 ≤ a ∧ a ≤ 2147483647) (hb : -2147483648 ≤ b ∧ b ≤ 2147483647) : zI a = zI b ↔ a = b := by
  rw [← Int32.toInt_inj, zI_toInt ha, zI_toInt hb]
theorem zI_0 : (0 : Int32) = zI 0 := by decide +kernel
theorem zI_n (n : Nat) : zI (n : Int) = nI n := Int32.ofInt_eq_ofNat
theorem zI_cl {a : Int} (h : 0 ≤ a ∧ a ≤ 2147483647) : (zI a).toNatClampNeg = a.toNat := Int32.toNatClampNeg_ofInt_of_le (by omega) (by omega)
theorem zI_in {a : Int} {n : Nat} (h : 0 ≤ a ∧ a < (n : Int) ∧ a ≤ 2147483647) : vp_in (zI a) n := by
  rw [vp_in_iff, zI_toInt (by omega)]
  omega
theorem zI_ne0 {a : Int} (h : a ≠ 0 ∧ -2147483648 ≤ a ∧ a ≤ 2147483647) : ¬ zI a = 0 := by
  rw [zI_0, zI_eq (by omega) (by omega)]
  omega
theorem zI_div {a b : Int} (h : 0 ≤ a ∧ a ≤ 2147483647 ∧ 0 < b ∧ b ≤ 2147483647) : zI a / zI b = zI (a / b) := by
  obtain ⟨n, rfl⟩ := Int.eq_ofNat_of_zero_le h.1
  obtain ⟨d, rfl⟩ := Int.eq_ofNat_of_zero_le (show 0 ≤ b by omega)
  rw [← Int.natCast_ediv, zI_n, zI_n, zI_n]
  exact pk_div (by omega) (by omega) (by omega)
theorem zI_rem {a b : Int} (h : 0 ≤ a ∧ a ≤ 2147483647 ∧ 0 < b ∧ b ≤ 2147483647) : zI a - zI a / zI b * zI b = zI (a % b) := by
  obtain ⟨n, rfl⟩ := Int.eq_ofNat_of_zero_le h.1
  obtain ⟨d, rfl⟩ := Int.eq_ofNat_of_zero_le (show 0 ≤ b by omega)
  rw [← Int.natCast_emod, zI_n, zI_n, zI_n]
  exact pk_rem (by omega) (by omega) (by omega)
theorem zA_at (g : Int → Int) {a : Int} (h : 0 ≤ a ∧ a ≤ 2147483647) : zA g (zI a).toNatClampNeg = zI (g a) := by
  rw [zI_cl h]
  show zI (g (a.toNat : Int)) = _
  rw [Int.toNat_of_nonneg h.1]
theorem zA_up (g : Int → Int) {a : Int} (v : Int) (h : 0 ≤ a ∧ a ≤ 2147483647) : upd (zA g) (zI a).toNatClampNeg (zI v) = zA (zu g a v) := by
  rw [zI_cl h]
  funext k
  show (if k = a.toNat then zI v else zI (g k)) = zI (if (k : Int) = a then v else g k)
  by_cases hk : k = a.toNat
  · rw [if_pos hk, if_pos (by omega)]
  · rw [if_neg hk, if_neg (by omega)]
theorem zA_cp (f g : Int → Int) (sp dp n : Nat) : va_cpy (zA f) (zA g) sp dp n = zA (zc f g sp dp n) := by
  funext k
  show (if dp ≤ k ∧ k < dp + n then zI (f ((sp + (k - dp) : Nat) : Int)) else zI (g k)) = zI (if (dp : Int) ≤ (k : Int) ∧ (k : Int) < (dp : Int) + (n : Int) then f ((sp : Int) + ((k : Int) - (dp : Int))) else g k)
  by_cases hk : dp ≤ k ∧ k < dp + n
  · rw [if_pos hk, if_pos (by omega)]
    congr 2
    omega
  · rw [if_neg hk, if_neg (by omega)]
theorem zA_0 : zA (fun _ => 0) = fun _ => (0 : Int32) := by
  funext k
  exact zI_0.symm
theorem zu_s {g : Int → Int} {i v : Int} : zu g i v i = v := if_pos rfl
theorem zu_n {g : Int → Int} {i v k : Int} (h : k ≠ i) : zu g i v k = g k := if_neg h
theorem bZ_rng (P : Prop) [Decidable P] : 0 ≤ bZ P ∧ bZ P ≤ 1 := by
  unfold bZ
  split <;> omega
theorem bZ_t {P : Prop} [Decidable P] (h : P) : bZ P = 1 := if_pos h
theorem bZ_f {P : Prop} [Decidable P] (h : ¬ P) : bZ P = 0 := if_neg h
theorem bZ_iff {P Q : Prop} [Decidable P] [Decidable Q] (h : P ↔ Q) : bZ P = bZ Q := by
  unfold bZ
  by_cases hp : P
  · rw [if_pos hp, if_pos (h.mp hp)]
  · rw [if_neg hp, if_neg (fun q => hp (h.mpr q))]

section ZR
variable {p : Program} {l : Launch} {e : Env} {R : Room} {s : State} {m : MethodId} {args : Array Value} {below : List Frame} {meth : Method} {c : Code} {H : Heap} {locs : List Loc} {cells slots : Nat} {Q : State → Prop}
variable {cc : ByteArray} {pc : Nat} {ls : Array Slot} {rest : List Value} {D : va_G} {cl : List vw_C} {A : Nat → Prop} {a : Nat} {tys : List (ClassId × FieldType)} {ws : va_W} {H0 : Heap}
theorem zv_iconst (hx : p.tables.exec = Jvm.exec) (hb : c.code = cc) {n : Int} (hdg : decode cc pc = .ok (.iconst n, 1)) (k : W p l e R s m args below meth c H locs cells slots Q (F0 m (pc + 1) ls (.int (zI n) :: rest))) : W p l e R s m args below meth c H locs cells slots Q (F0 m pc ls rest) := lv_iconst hx hb hdg rfl k
theorem zv_bipush (hx : p.tables.exec = Jvm.exec) (hb : c.code = cc) {n : Int} (hdg : decode cc pc = .ok (.bipush n, 2)) (hv : (Int8.ofInt n).toInt32 = zI n) (k : W p l e R s m args below meth c H locs cells slots Q (F0 m (pc + 2) ls (.int (zI n) :: rest))) : W p l e R s m args below meth c H locs cells slots Q (F0 m pc ls rest) := lv_bipush hx hb hdg hv k
theorem zv_sipush (hx : p.tables.exec = Jvm.exec) (hb : c.code = cc) {n : Int} (hdg : decode cc pc = .ok (.sipush n, 3)) (hv : (Int16.ofInt n).toInt32 = zI n) (k : W p l e R s m args below meth c H locs cells slots Q (F0 m (pc + 3) ls (.int (zI n) :: rest))) : W p l e R s m args below meth c H locs cells slots Q (F0 m pc ls rest) := lv_sipush hx hb hdg hv k
theorem zv_iadd (hx : p.tables.exec = Jvm.exec) (hb : c.code = cc) {a b : Int} (hdg : decode cc pc = .ok (.iadd, 1)) (k : W p l e R s m args below meth c H locs cells slots Q (F0 m (pc + 1) ls (.int (zI (a + b)) :: rest))) : W p l e R s m args below meth c H locs cells slots Q (F0 m pc ls (.int (zI b) :: .int (zI a) :: rest)) := lv_iadd hx hb hdg (by rw [zI_add]; exact k)
theorem zv_isub (hx : p.tables.exec = Jvm.exec) (hb : c.code = cc) {a b : Int} (hdg : decode cc pc = .ok (.isub, 1)) (k : W p l e R s m args below meth c H locs cells slots Q (F0 m (pc + 1) ls (.int (zI (a - b)) :: rest))) : W p l e R s m args below meth c H locs cells slots Q (F0 m pc ls (.int (zI b) :: .int (zI a) :: rest)) := lv_isub hx hb hdg (by rw [zI_sub]; exact k)
theorem zv_imul (hx : p.tables.exec = Jvm.exec) (hb : c.code = cc) {a b : Int} (hdg : decode cc pc = .ok (.imul, 1)) (k : W p l e R s m args below meth c H locs cells slots Q (F0 m (pc + 1) ls (.int (zI (a * b)) :: rest))) : W p l e R s m args below meth c H locs cells slots Q (F0 m pc ls (.int (zI b) :: .int (zI a) :: rest)) := lv_imul hx hb hdg (by rw [zI_mul]; exact k)
theorem zv_idiv (hx : p.tables.exec = Jvm.exec) (hb : c.code = cc) {a b : Int} (h : 0 ≤ a ∧ a ≤ 2147483647 ∧ 0 < b ∧ b ≤ 2147483647) (hdg : decode cc pc = .ok (.idiv, 1)) (k : W p l e R s m args below meth c H locs cells slots Q (F0 m (pc + 1) ls (.int (zI (a / b)) :: rest))) : W p l e R s m args below meth c H locs cells slots Q (F0 m pc ls (.int (zI b) :: .int (zI a) :: rest)) := lv_idiv hx hb hdg (zI_ne0 (by omega)) (by rw [zI_div h]; exact k)
theorem zv_irem (hx : p.tables.exec = Jvm.exec) (hb : c.code = cc) {a b : Int} (h : 0 ≤ a ∧ a ≤ 2147483647 ∧ 0 < b ∧ b ≤ 2147483647) (hdg : decode cc pc = .ok (.irem, 1)) (k : W p l e R s m args below meth c H locs cells slots Q (F0 m (pc + 1) ls (.int (zI (a % b)) :: rest))) : W p l e R s m args below meth c H locs cells slots Q (F0 m pc ls (.int (zI b) :: .int (zI a) :: rest)) := lv_irem hx hb hdg (zI_ne0 (by omega)) (by rw [zI_rem h]; exact k)
theorem zv_icmp_lt (hx : p.tables.exec = Jvm.exec) (hb : c.code = cc) {a b : Int} {off : Int} {tgt : Nat} (h1 : -2147483648 ≤ a ∧ a ≤ 2147483647) (h2 : -2147483648 ≤ b ∧ b ≤ 2147483647) (hdg : decode cc pc = .ok (.if_icmp .lt off, 3)) (ht : (pc : Int) + off = (tgt : Int)) (kt : a < b → W p l e R s m args below meth c H locs cells slots Q (F0 m tgt ls rest)) (kf : b ≤ a → W p l e R s m args below meth c H locs cells slots Q (F0 m (pc + 3) ls rest)) : W p l e R s m args below meth c H locs cells slots Q (F0 m pc ls (.int (zI b) :: .int (zI a) :: rest)) := lv_icmp_lt hx hb hdg ht (fun q => kt ((zI_lt h1 h2).mp q)) (fun q => kf (by have z := (not_congr (zI_lt h1 h2)).mp q; omega))
theorem zv_if_lt (hx : p.tables.exec = Jvm.exec) (hb : c.code = cc) {a : Int} {off : Int} {tgt : Nat} (h1 : -2147483648 ≤ a ∧ a ≤ 2147483647) (hdg : decode cc pc = .ok (.ifCond .lt off, 3)) (ht : (pc : Int) + off = (tgt : Int)) (kt : a < 0 → W p l e R s m args below meth c H locs cells slots Q (F0 m tgt ls rest)) (kf : 0 ≤ a → W p l e R s m args below meth c H locs cells slots Q (F0 m (pc + 3) ls rest)) : W p l e R s m args below meth c H locs cells slots Q (F0 m pc ls (.int (zI a) :: rest)) := by
  have h2 : (-2147483648 : Int) ≤ 0 ∧ (0 : Int) ≤ 2147483647 := by omega
  refine lv_if_lt hx hb hdg ht (fun q => ?_) (fun q => ?_)
  · rw [zI_0] at q; exact (kt ((zI_lt h1 h2).mp q))
  · rw [zI_0] at q; exact (kf (by have z := (not_congr (zI_lt h1 h2)).mp q; omega))
theorem zv_icmp_ge (hx : p.tables.exec = Jvm.exec) (hb : c.code = cc) {a b : Int} {off : Int} {tgt : Nat} (h1 : -2147483648 ≤ a ∧ a ≤ 2147483647) (h2 : -2147483648 ≤ b ∧ b ≤ 2147483647) (hdg : decode cc pc = .ok (.if_icmp .ge off, 3)) (ht : (pc : Int) + off = (tgt : Int)) (kt : b ≤ a → W p l e R s m args below meth c H locs cells slots Q (F0 m tgt ls rest)) (kf : a < b → W p l e R s m args below meth c H locs cells slots Q (F0 m (pc + 3) ls rest)) : W p l e R s m args below meth c H locs cells slots Q (F0 m pc ls (.int (zI b) :: .int (zI a) :: rest)) := lv_icmp_ge hx hb hdg ht (fun q => kt ((zI_le h2 h1).mp q)) (fun q => kf (by have z := (not_congr (zI_le h2 h1)).mp q; omega))
theorem zv_if_ge (hx : p.tables.exec = Jvm.exec) (hb : c.code = cc) {a : Int} {off : Int} {tgt : Nat} (h1 : -2147483648 ≤ a ∧ a ≤ 2147483647) (hdg : decode cc pc = .ok (.ifCond .ge off, 3)) (ht : (pc : Int) + off = (tgt : Int)) (kt : 0 ≤ a → W p l e R s m args below meth c H locs cells slots Q (F0 m tgt ls rest)) (kf : a < 0 → W p l e R s m args below meth c H locs cells slots Q (F0 m (pc + 3) ls rest)) : W p l e R s m args below meth c H locs cells slots Q (F0 m pc ls (.int (zI a) :: rest)) := by
  have h2 : (-2147483648 : Int) ≤ 0 ∧ (0 : Int) ≤ 2147483647 := by omega
  refine lv_if_ge hx hb hdg ht (fun q => ?_) (fun q => ?_)
  · rw [zI_0] at q; exact (kt ((zI_le h2 h1).mp q))
  · rw [zI_0] at q; exact (kf (by have z := (not_congr (zI_le h2 h1)).mp q; omega))
theorem zv_icmp_gt (hx : p.tables.exec = Jvm.exec) (hb : c.code = cc) {a b : Int} {off : Int} {tgt : Nat} (h1 : -2147483648 ≤ a ∧ a ≤ 2147483647) (h2 : -2147483648 ≤ b ∧ b ≤ 2147483647) (hdg : decode cc pc = .ok (.if_icmp .gt off, 3)) (ht : (pc : Int) + off = (tgt : Int)) (kt : b < a → W p l e R s m args below meth c H locs cells slots Q (F0 m tgt ls rest)) (kf : a ≤ b → W p l e R s m args below meth c H locs cells slots Q (F0 m (pc + 3) ls rest)) : W p l e R s m args below meth c H locs cells slots Q (F0 m pc ls (.int (zI b) :: .int (zI a) :: rest)) := lv_icmp_gt hx hb hdg ht (fun q => kt ((zI_lt h2 h1).mp q)) (fun q => kf (by have z := (not_congr (zI_lt h2 h1)).mp q; omega))
theorem zv_if_gt (hx : p.tables.exec = Jvm.exec) (hb : c.code = cc) {a : Int} {off : Int} {tgt : Nat} (h1 : -2147483648 ≤ a ∧ a ≤ 2147483647) (hdg : decode cc pc = .ok (.ifCond .gt off, 3)) (ht : (pc : Int) + off = (tgt : Int)) (kt : 0 < a → W p l e R s m args below meth c H locs cells slots Q (F0 m tgt ls rest)) (kf : a ≤ 0 → W p l e R s m args below meth c H locs cells slots Q (F0 m (pc + 3) ls rest)) : W p l e R s m args below meth c H locs cells slots Q (F0 m pc ls (.int (zI a) :: rest)) := by
  have h2 : (-2147483648 : Int) ≤ 0 ∧ (0 : Int) ≤ 2147483647 := by omega
  refine lv_if_gt hx hb hdg ht (fun q => ?_) (fun q => ?_)
  · rw [zI_0] at q; exact (kt ((zI_lt h2 h1).mp q))
  · rw [zI_0] at q; exact (kf (by have z := (not_congr (zI_lt h2 h1)).mp q; omega))
theorem zv_icmp_le (hx : p.tables.exec = Jvm.exec) (hb : c.code = cc) {a b : Int} {off : Int} {tgt : Nat} (h1 : -2147483648 ≤ a ∧ a ≤ 2147483647) (h2 : -2147483648 ≤ b ∧ b ≤ 2147483647) (hdg : decode cc pc = .ok (.if_icmp .le off, 3)) (ht : (pc : Int) + off = (tgt : Int)) (kt : a ≤ b → W p l e R s m args below meth c H locs cells slots Q (F0 m tgt ls rest)) (kf : b < a → W p l e R s m args below meth c H locs cells slots Q (F0 m (pc + 3) ls rest)) : W p l e R s m args below meth c H locs cells slots Q (F0 m pc ls (.int (zI b) :: .int (zI a) :: rest)) := lv_icmp_le hx hb hdg ht (fun q => kt ((zI_le h1 h2).mp q)) (fun q => kf (by have z := (not_congr (zI_le h1 h2)).mp q; omega))
theorem zv_if_le (hx : p.tables.exec = Jvm.exec) (hb : c.code = cc) {a : Int} {off : Int} {tgt : Nat} (h1 : -2147483648 ≤ a ∧ a ≤ 2147483647) (hdg : decode cc pc = .ok (.ifCond .le off, 3)) (ht : (pc : Int) + off = (tgt : Int)) (kt : a ≤ 0 → W p l e R s m args below meth c H locs cells slots Q (F0 m tgt ls rest)) (kf : 0 < a → W p l e R s m args below meth c H locs cells slots Q (F0 m (pc + 3) ls rest)) : W p l e R s m args below meth c H locs cells slots Q (F0 m pc ls (.int (zI a) :: rest)) := by
  have h2 : (-2147483648 : Int) ≤ 0 ∧ (0 : Int) ≤ 2147483647 := by omega
  refine lv_if_le hx hb hdg ht (fun q => ?_) (fun q => ?_)
  · rw [zI_0] at q; exact (kt ((zI_le h1 h2).mp q))
  · rw [zI_0] at q; exact (kf (by have z := (not_congr (zI_le h1 h2)).mp q; omega))
theorem zv_icmp_eq (hx : p.tables.exec = Jvm.exec) (hb : c.code = cc) {a b : Int} {off : Int} {tgt : Nat} (h1 : -2147483648 ≤ a ∧ a ≤ 2147483647) (h2 : -2147483648 ≤ b ∧ b ≤ 2147483647) (hdg : decode cc pc = .ok (.if_icmp .eq off, 3)) (ht : (pc : Int) + off = (tgt : Int)) (kt : a = b → W p l e R s m args below meth c H locs cells slots Q (F0 m tgt ls rest)) (kf : a ≠ b → W p l e R s m args below meth c H locs cells slots Q (F0 m (pc + 3) ls rest)) : W p l e R s m args below meth c H locs cells slots Q (F0 m pc ls (.int (zI b) :: .int (zI a) :: rest)) := lv_icmp_eq hx hb hdg ht (fun q => kt ((zI_eq h1 h2).mp q)) (fun q => kf (fun z => q ((zI_eq h1 h2).mpr z)))
theorem zv_if_eq (hx : p.tables.exec = Jvm.exec) (hb : c.code = cc) {a : Int} {off : Int} {tgt : Nat} (h1 : -2147483648 ≤ a ∧ a ≤ 2147483647) (hdg : decode cc pc = .ok (.ifCond .eq off, 3)) (ht : (pc : Int) + off = (tgt : Int)) (kt : a = 0 → W p l e R s m args below meth c H locs cells slots Q (F0 m tgt ls rest)) (kf : a ≠ 0 → W p l e R s m args below meth c H locs cells slots Q (F0 m (pc + 3) ls rest)) : W p l e R s m args below meth c H locs cells slots Q (F0 m pc ls (.int (zI a) :: rest)) := by
  have h2 : (-2147483648 : Int) ≤ 0 ∧ (0 : Int) ≤ 2147483647 := by omega
  refine lv_if_eq hx hb hdg ht (fun q => ?_) (fun q => ?_)
  · rw [zI_0] at q; exact (kt ((zI_eq h1 h2).mp q))
  · rw [zI_0] at q; exact (kf (fun z => q ((zI_eq h1 h2).mpr z)))
theorem zv_icmp_ne (hx : p.tables.exec = Jvm.exec) (hb : c.code = cc) {a b : Int} {off : Int} {tgt : Nat} (h1 : -2147483648 ≤ a ∧ a ≤ 2147483647) (h2 : -2147483648 ≤ b ∧ b ≤ 2147483647) (hdg : decode cc pc = .ok (.if_icmp .ne off, 3)) (ht : (pc : Int) + off = (tgt : Int)) (kt : a ≠ b → W p l e R s m args below meth c H locs cells slots Q (F0 m tgt ls rest)) (kf : a = b → W p l e R s m args below meth c H locs cells slots Q (F0 m (pc + 3) ls rest)) : W p l e R s m args below meth c H locs cells slots Q (F0 m pc ls (.int (zI b) :: .int (zI a) :: rest)) := lv_icmp_ne hx hb hdg ht (fun q => kt (fun z => q ((zI_eq h1 h2).mpr z))) (fun q => kf ((zI_eq h1 h2).mp q))
theorem zv_if_ne (hx : p.tables.exec = Jvm.exec) (hb : c.code = cc) {a : Int} {off : Int} {tgt : Nat} (h1 : -2147483648 ≤ a ∧ a ≤ 2147483647) (hdg : decode cc pc = .ok (.ifCond .ne off, 3)) (ht : (pc : Int) + off = (tgt : Int)) (kt : a ≠ 0 → W p l e R s m args below meth c H locs cells slots Q (F0 m tgt ls rest)) (kf : a = 0 → W p l e R s m args below meth c H locs cells slots Q (F0 m (pc + 3) ls rest)) : W p l e R s m args below meth c H locs cells slots Q (F0 m pc ls (.int (zI a) :: rest)) := by
  have h2 : (-2147483648 : Int) ≤ 0 ∧ (0 : Int) ≤ 2147483647 := by omega
  refine lv_if_ne hx hb hdg ht (fun q => ?_) (fun q => ?_)
  · rw [zI_0] at q; exact (kt (fun z => q ((zI_eq h1 h2).mpr z)))
  · rw [zI_0] at q; exact (kf ((zI_eq h1 h2).mp q))
theorem zv_ifeq_b (hx : p.tables.exec = Jvm.exec) (hb : c.code = cc) {P : Prop} [Decidable P] {off : Int} {tgt : Nat} (hdg : decode cc pc = .ok (.ifCond .eq off, 3)) (ht : (pc : Int) + off = (tgt : Int)) (kt : ¬ P → W p l e R s m args below meth c H locs cells slots Q (F0 m tgt ls rest)) (kf : P → W p l e R s m args below meth c H locs cells slots Q (F0 m (pc + 3) ls rest)) : W p l e R s m args below meth c H locs cells slots Q (F0 m pc ls (.int (zI (bZ P)) :: rest)) := zv_if_eq hx hb (by have := bZ_rng P; omega) hdg ht (fun q => kt (fun z => by rw [bZ_t z] at q; omega)) (fun q => kf (Decidable.byContradiction fun z => q (bZ_f z)))
theorem zv_ifne_b (hx : p.tables.exec = Jvm.exec) (hb : c.code = cc) {P : Prop} [Decidable P] {off : Int} {tgt : Nat} (hdg : decode cc pc = .ok (.ifCond .ne off, 3)) (ht : (pc : Int) + off = (tgt : Int)) (kt : P → W p l e R s m args below meth c H locs cells slots Q (F0 m tgt ls rest)) (kf : ¬ P → W p l e R s m args below meth c H locs cells slots Q (F0 m (pc + 3) ls rest)) : W p l e R s m args below meth c H locs cells slots Q (F0 m pc ls (.int (zI (bZ P)) :: rest)) := zv_if_ne hx hb (by have := bZ_rng P; omega) hdg ht (fun q => kt (Decidable.byContradiction fun z => q (bZ_f z))) (fun q => kf (fun z => by rw [bZ_t z] at q; omega))
theorem zv_iinc (hx : p.tables.exec = Jvm.exec) (hb : c.code = cc) {i nL k : Nat} {n a : Int} {lv lv' : List (Nat × Value)} (hdg : decode cc pc = .ok (.iinc i n, 3)) (h : lv_has ls nL lv) (hk : lv[k]? = some (i, .int (zI a))) (hn : i < nL) (hl : (i, Value.int (zI (a + n))) :: lv.filter (fun q => !(q.1 == i) && !(q.1 + 1 == i && q.2.category == 2)) = lv') (kk : ∀ ls' : Array Slot, lv_has ls' nL lv' → W p l e R s m args below meth c H locs cells slots Q (F0 m (pc + 3) ls' rest)) : W p l e R s m args below meth c H locs cells slots Q (F0 m pc ls rest) := lv_iinc (v := zI (a + n)) hx hb hdg h hk (zI_add a n) hn hl kk
theorem zv_iald (hx : p.tables.exec = Jvm.exec) (hb : c.code = cc) (hK : va_K D cl tys s) (hP : va_P D cl ws H) (q0 t0 : Nat) {cA : ClassId} {n : Nat} {g : Int → Int} (ha : ws[q0]? = some (a, .inl (cA, n, .inl (zA g)))) (ht : tys[t0]? = some (cA, .int)) {i : Int} (hin : 0 ≤ i ∧ i < (n : Int) ∧ i ≤ 2147483647) (hdg : decode cc pc = .ok (.iaload, 1)) (kk : W p l e R s m args below meth c H locs cells slots Q (F0 m (pc + 1) ls (.int (zI (g i)) :: rest))) : W p l e R s m args below meth c H locs cells slots Q (F0 m pc ls (.int (zI i) :: .ref a :: rest)) := va_iald hx hb hK hP q0 t0 ha ht (zI_in hin) hdg (by rw [zA_at g (by omega)]; exact kk)
theorem zv_bald (hx : p.tables.exec = Jvm.exec) (hb : c.code = cc) (hK : va_K D cl tys s) (hP : va_P D cl ws H) (q0 t0 : Nat) {cA : ClassId} {n : Nat} {g : Int → Int} (ha : ws[q0]? = some (a, .inl (cA, n, .inl (zA g)))) (ht : tys[t0]? = some (cA, .byte)) {i : Int} (hin : 0 ≤ i ∧ i < (n : Int) ∧ i ≤ 2147483647) (hdg : decode cc pc = .ok (.baload, 1)) (kk : W p l e R s m args below meth c H locs cells slots Q (F0 m (pc + 1) ls (.int (zI (g i)) :: rest))) : W p l e R s m args below meth c H locs cells slots Q (F0 m pc ls (.int (zI i) :: .ref a :: rest)) := va_bald hx hb hK hP q0 t0 ha ht (zI_in hin) hdg (by rw [zA_at g (by omega)]; exact kk)
theorem zv_zald (hx : p.tables.exec = Jvm.exec) (hb : c.code = cc) (hK : va_K D cl tys s) (hP : va_P D cl ws H) (q0 t0 : Nat) {cA : ClassId} {n : Nat} {g : Int → Int} (ha : ws[q0]? = some (a, .inl (cA, n, .inl (zA g)))) (ht : tys[t0]? = some (cA, .boolean)) {i : Int} (hin : 0 ≤ i ∧ i < (n : Int) ∧ i ≤ 2147483647) (hdg : decode cc pc = .ok (.baload, 1)) (kk : W p l e R s m args below meth c H locs cells slots Q (F0 m (pc + 1) ls (.int (zI (g i)) :: rest))) : W p l e R s m args below meth c H locs cells slots Q (F0 m pc ls (.int (zI i) :: .ref a :: rest)) := va_zald hx hb hK hP q0 t0 ha ht (zI_in hin) hdg (by rw [zA_at g (by omega)]; exact kk)
theorem zv_iast (hx : p.tables.exec = Jvm.exec) (hb : c.code = cc) (hK : va_K D cl tys s) (hP : va_P D cl ws H) (hD : va_D A ws) (hS : va_S A H0 H locs) (q0 t0 : Nat) {cA : ClassId} {n : Nat} {g : Int → Int} (ha : ws[q0]? = some (a, .inl (cA, n, .inl (zA g)))) (ht : tys[t0]? = some (cA, .int)) {i v : Int} {ws' : va_W} (hin : 0 ≤ i ∧ i < (n : Int) ∧ i ≤ 2147483647) (hw : ws.set q0 (a, .inl (cA, n, .inl (zA (zu g i v)))) = ws') (hdg : decode cc pc = .ok (.iastore, 1)) (kk : ∀ (H1 : Heap) (locs1 : List Loc), va_P D cl ws' H1 → va_D A ws' → va_S A H0 H1 locs1 → W p l e R s m args below meth c H1 locs1 cells slots Q (F0 m (pc + 1) ls rest)) : W p l e R s m args below meth c H locs cells slots Q (F0 m pc ls (.int (zI v) :: .int (zI i) :: .ref a :: rest)) := by
  subst hw
  refine va_iast hx hb hK hP hD hS q0 t0 ha ht (zI_in hin) hdg (fun H1 locs1 h1 h2 h3 => ?_)
  rw [zA_up g v (by omega)] at h1 h2
  exact kk H1 locs1 h1 h2 h3
theorem zv_bast (hx : p.tables.exec = Jvm.exec) (hb : c.code = cc) (hK : va_K D cl tys s) (hP : va_P D cl ws H) (hD : va_D A ws) (hS : va_S A H0 H locs) (q0 t0 : Nat) {cA : ClassId} {n : Nat} {g : Int → Int} (ha : ws[q0]? = some (a, .inl (cA, n, .inl (zA g)))) (ht : tys[t0]? = some (cA, .byte)) {i v : Int} {ws' : va_W} (hv : vp_nar .byte (zI v) = zI v) (hin : 0 ≤ i ∧ i < (n : Int) ∧ i ≤ 2147483647) (hw : ws.set q0 (a, .inl (cA, n, .inl (zA (zu g i v)))) = ws') (hdg : decode cc pc = .ok (.bastore, 1)) (kk : ∀ (H1 : Heap) (locs1 : List Loc), va_P D cl ws' H1 → va_D A ws' → va_S A H0 H1 locs1 → W p l e R s m args below meth c H1 locs1 cells slots Q (F0 m (pc + 1) ls rest)) : W p l e R s m args below meth c H locs cells slots Q (F0 m pc ls (.int (zI v) :: .int (zI i) :: .ref a :: rest)) := by
  subst hw
  refine va_bast hx hb hK hP hD hS q0 t0 ha ht (zI_in hin) hdg (fun H1 locs1 h1 h2 h3 => ?_)
  rw [hv, zA_up g v (by omega)] at h1 h2
  exact kk H1 locs1 h1 h2 h3
theorem zv_zast (hx : p.tables.exec = Jvm.exec) (hb : c.code = cc) (hK : va_K D cl tys s) (hP : va_P D cl ws H) (hD : va_D A ws) (hS : va_S A H0 H locs) (q0 t0 : Nat) {cA : ClassId} {n : Nat} {g : Int → Int} (ha : ws[q0]? = some (a, .inl (cA, n, .inl (zA g)))) (ht : tys[t0]? = some (cA, .boolean)) {i v : Int} {ws' : va_W} (hv : vp_nar .boolean (zI v) = zI v) (hin : 0 ≤ i ∧ i < (n : Int) ∧ i ≤ 2147483647) (hw : ws.set q0 (a, .inl (cA, n, .inl (zA (zu g i v)))) = ws') (hdg : decode cc pc = .ok (.bastore, 1)) (kk : ∀ (H1 : Heap) (locs1 : List Loc), va_P D cl ws' H1 → va_D A ws' → va_S A H0 H1 locs1 → W p l e R s m args below meth c H1 locs1 cells slots Q (F0 m (pc + 1) ls rest)) : W p l e R s m args below meth c H locs cells slots Q (F0 m pc ls (.int (zI v) :: .int (zI i) :: .ref a :: rest)) := by
  subst hw
  refine va_zast hx hb hK hP hD hS q0 t0 ha ht (zI_in hin) hdg (fun H1 locs1 h1 h2 h3 => ?_)
  rw [hv, zA_up g v (by omega)] at h1 h2
  exact kk H1 locs1 h1 h2 h3
theorem zI_nn {z : Int} (h : 0 ≤ z ∧ z ≤ 2147483647) : ¬ zI z < 0 := by
  rw [zI_0, zI_lt (by omega) (by omega)]
  omega
theorem zv_copy (hx : p.tables.exec = Jvm.exec) (hb : c.code = cc) (hml : c.maxLocals = ls.size) {own : String} {index : Nat} (hown : s.vm.findClass own = some m.cls) (hlink : (Cond.methodLink own index arraycopyName).before args s = true) (hnat : (Cond.native arraycopyName).before args s = true) (hstat : (Cond.static arraycopyName).before args s = true) (hini : (Cond.initialized "java/lang/System").before args s = true) (hK : va_K D cl tys s) (hP : va_P D cl ws H) (hD : va_D A ws) (hS : va_S A H0 H locs) (q0 q1 t0 : Nat) {a0 : Nat} {cA : ClassId} {n0 n1 : Nat} {f g : Int → Int} (ha0 : ws[q0]? = some (a0, .inl (cA, n0, .inl (zA f)))) (ha1 : ws[q1]? = some (a, .inl (cA, n1, .inl (zA g)))) (ht : tys[t0]? = some (cA, .int)) {sp dp n : Int} {ws' : va_W} (h : 0 ≤ sp ∧ 0 ≤ dp ∧ 0 ≤ n ∧ sp + n ≤ (n0 : Int) ∧ dp + n ≤ (n1 : Int) ∧ sp + n ≤ 2147483647 ∧ dp + n ≤ 2147483647) (hw : ws.set q1 (a, .inl (cA, n1, .inl (zA (zc f g sp dp n)))) = ws') (hframes : 1 ≤ R.frames) (hlocals : (rest.map fun v => v.category).sum + (nativeFrameWords "java/lang/System" "arraycopy" 5 + 11) ≤ R.locals) (hdg : decode cc pc = .ok (.invokestatic index, 3)) (kk : ∀ (H1 : Heap) (locs1 : List Loc), va_P D cl ws' H1 → va_D A ws' → va_S A H0 H1 locs1 → W p l e R s m args below meth c H1 locs1 cells slots Q (F0 m (pc + 3) ls rest)) : W p l e R s m args below meth c H locs cells slots Q (F0 m pc ls (.int (zI n) :: .int (zI dp) :: .ref a :: .int (zI sp) :: .ref a0 :: rest)) := by
  subst hw
  have e1 := zI_cl (a := sp) (by omega)
  have e2 := zI_cl (a := dp) (by omega)
  have e3 := zI_cl (a := n) (by omega)
  refine va_copyi hx hb hml hown hlink hnat hstat hini hK hP hD hS q0 q1 t0 t0 ha0 ha1 ht ht rfl (zI_nn (by omega)) (zI_nn (by omega)) (zI_nn (by omega)) (by rw [e1, e3]; omega) (by rw [e2, e3]; omega) (fun i _ => rfl) hframes hlocals hdg (fun H1 locs1 p1 p2 p3 => ?_)
  rw [e1, e2, e3, zA_cp, Int.toNat_of_nonneg (by omega), Int.toNat_of_nonneg (by omega), Int.toNat_of_nonneg (by omega)] at p1 p2
  exact kk H1 locs1 p1 p2 p3
theorem zv_iand (hx : p.tables.exec = Jvm.exec) (hb : c.code = cc) {x y : Int32} {z : Int} (h : x &&& y = zI z) (hdg : decode cc pc = .ok (.iand, 1)) (k : W p l e R s m args below meth c H locs cells slots Q (F0 m (pc + 1) ls (.int (zI z) :: rest))) : W p l e R s m args below meth c H locs cells slots Q (F0 m pc ls (.int y :: .int x :: rest)) := lv_iand hx hb hdg (by rw [h]; exact k)
theorem zv_ior (hx : p.tables.exec = Jvm.exec) (hb : c.code = cc) {x y : Int32} {z : Int} (h : x ||| y = zI z) (hdg : decode cc pc = .ok (.ior, 1)) (k : W p l e R s m args below meth c H locs cells slots Q (F0 m (pc + 1) ls (.int (zI z) :: rest))) : W p l e R s m args below meth c H locs cells slots Q (F0 m pc ls (.int y :: .int x :: rest)) := lv_ior hx hb hdg (by rw [h]; exact k)
theorem zv_ixor (hx : p.tables.exec = Jvm.exec) (hb : c.code = cc) {x y : Int32} {z : Int} (h : x ^^^ y = zI z) (hdg : decode cc pc = .ok (.ixor, 1)) (k : W p l e R s m args below meth c H locs cells slots Q (F0 m (pc + 1) ls (.int (zI z) :: rest))) : W p l e R s m args below meth c H locs cells slots Q (F0 m pc ls (.int y :: .int x :: rest)) := lv_ixor hx hb hdg (by rw [h]; exact k)
theorem zv_ishl (hx : p.tables.exec = Jvm.exec) (hb : c.code = cc) {x y : Int32} {z : Int} (h : x <<< (y &&& 31) = zI z) (hdg : decode cc pc = .ok (.ishl, 1)) (k : W p l e R s m args below meth c H locs cells slots Q (F0 m (pc + 1) ls (.int (zI z) :: rest))) : W p l e R s m args below meth c H locs cells slots Q (F0 m pc ls (.int y :: .int x :: rest)) := lv_ishl hx hb hdg (by rw [h]; exact k)
theorem zv_ishr (hx : p.tables.exec = Jvm.exec) (hb : c.code = cc) {x y : Int32} {z : Int} (h : x >>> (y &&& 31) = zI z) (hdg : decode cc pc = .ok (.ishr, 1)) (k : W p l e R s m args below meth c H locs cells slots Q (F0 m (pc + 1) ls (.int (zI z) :: rest))) : W p l e R s m args below meth c H locs cells slots Q (F0 m pc ls (.int y :: .int x :: rest)) := lv_ishr hx hb hdg (by rw [h]; exact k)
theorem zv_iushr (hx : p.tables.exec = Jvm.exec) (hb : c.code = cc) {x y : Int32} {z : Int} (h : (x.toUInt32 >>> (y.toUInt32 &&& Int32.toUInt32 31)).toInt32 = zI z) (hdg : decode cc pc = .ok (.iushr, 1)) (k : W p l e R s m args below meth c H locs cells slots Q (F0 m (pc + 1) ls (.int (zI z) :: rest))) : W p l e R s m args below meth c H locs cells slots Q (F0 m pc ls (.int y :: .int x :: rest)) := lv_iushr hx hb hdg h k
theorem zv_ldc (hx : p.tables.exec = Jvm.exec) (hb : c.code = cc) {own : String} {index : Nat} {v : Int32} {n : Int} (hown : s.vm.findClass own = some m.cls) (hconst : (Jvm.Cond.constant own index v).before args s = true) (hv : v = zI n) (hdg : decode cc pc = .ok (.ldc index, 2)) (k : W p l e R s m args below meth c H locs cells slots Q (F0 m (pc + 2) ls (.int (zI n) :: rest))) : W p l e R s m args below meth c H locs cells slots Q (F0 m pc ls rest) := lv_ldc hx hb hown hconst hdg (by rw [hv]; exact k)
theorem zv_tableIn (hx : p.tables.exec = Jvm.exec) (hb : c.code = cc) {a k : Int} {dflt lo hi : Int} {offs : Array Int} {len : Nat} {off : Int} {tgt : Nat} (h : -2147483648 ≤ a ∧ a ≤ 2147483647) (hk : a = k) (hr : lo ≤ k ∧ k ≤ hi) (hdg : decode cc pc = .ok (.tableswitch dflt lo hi offs, len)) (ho : offs[(k - lo).toNat]? = some off) (ht : (pc : Int) + off = (tgt : Int)) (kk : W p l e R s m args below meth c H locs cells slots Q (F0 m tgt ls rest)) : W p l e R s m args below meth c H locs cells slots Q (F0 m pc ls (.int (zI a) :: rest)) := by
  subst hk
  exact lv_tableIn hx hb hdg (by rw [zI_toInt h]; omega) (by rw [zI_toInt h]; omega) (by rw [zI_toInt h]; exact ho) ht kk
theorem zv_tableOut (hx : p.tables.exec = Jvm.exec) (hb : c.code = cc) {a : Int} {dflt lo hi : Int} {offs : Array Int} {len : Nat} {tgt : Nat} (h : -2147483648 ≤ a ∧ a ≤ 2147483647) (hk : a < lo ∨ hi < a) (hdg : decode cc pc = .ok (.tableswitch dflt lo hi offs, len)) (ht : (pc : Int) + dflt = (tgt : Int)) (kk : W p l e R s m args below meth c H locs cells slots Q (F0 m tgt ls rest)) : W p l e R s m args below meth c H locs cells slots Q (F0 m pc ls (.int (zI a) :: rest)) := lv_tableOut hx hb hdg (by rw [zI_toInt h]; exact hk) ht kk
theorem zv_mmax (hx : p.tables.exec = Jvm.exec) (hb : c.code = cc) (hml : c.maxLocals = ls.size) {own : String} {index : Nat} (hown : s.vm.findClass own = some m.cls) (hlink : (Cond.methodLink own index Lib.Math.max.name).before args s = true) (hstat : (Cond.static Lib.Math.max.name).before args s = true) (hini : (Cond.initialized "java/lang/Math").before args s = true) (hcode : (Cond.code Lib.Math.max.name Lib.Math.max.code 2 (some .int)).before args s = true) (hframes : 1 ≤ R.frames) (hlocals : (rest.map fun v => v.category).sum + 13 ≤ R.locals) (hc : cells ≤ R.cells) (hs : slots ≤ R.slots) {a b : Int} (h1 : -2147483648 ≤ a ∧ a ≤ 2147483647) (h2 : -2147483648 ≤ b ∧ b ≤ 2147483647) (hdg : decode cc pc = .ok (.invokestatic index, 3)) (k : W p l e R s m args below meth c H locs cells slots Q (F0 m (pc + 3) ls (.int (zI (max a b)) :: rest))) : W p l e R s m args below meth c H locs cells slots Q (F0 m pc ls (.int (zI b) :: .int (zI a) :: rest)) := by
  refine va_mmax hx hb hml hown hlink hstat hini hcode hframes hlocals hc hs hdg ?_
  rw [show (if zI a < zI b then zI b else zI a) = zI (max a b) from by by_cases q : a < b; rw [if_pos ((zI_lt h1 h2).mpr q), Int.max_eq_right (by omega)]; rw [if_neg (fun z => q ((zI_lt h1 h2).mp z)), Int.max_eq_left (by omega)]]
  exact k
theorem zv_mmin (hx : p.tables.exec = Jvm.exec) (hb : c.code = cc) (hml : c.maxLocals = ls.size) {own : String} {index : Nat} (hown : s.vm.findClass own = some m.cls) (hlink : (Cond.methodLink own index Lib.Math.min.name).before args s = true) (hstat : (Cond.static Lib.Math.min.name).before args s = true) (hini : (Cond.initialized "java/lang/Math").before args s = true) (hcode : (Cond.code Lib.Math.min.name Lib.Math.min.code 2 (some .int)).before args s = true) (hframes : 1 ≤ R.frames) (hlocals : (rest.map fun v => v.category).sum + 13 ≤ R.locals) (hc : cells ≤ R.cells) (hs : slots ≤ R.slots) {a b : Int} (h1 : -2147483648 ≤ a ∧ a ≤ 2147483647) (h2 : -2147483648 ≤ b ∧ b ≤ 2147483647) (hdg : decode cc pc = .ok (.invokestatic index, 3)) (k : W p l e R s m args below meth c H locs cells slots Q (F0 m (pc + 3) ls (.int (zI (min a b)) :: rest))) : W p l e R s m args below meth c H locs cells slots Q (F0 m pc ls (.int (zI b) :: .int (zI a) :: rest)) := by
  refine va_mmin hx hb hml hown hlink hstat hini hcode hframes hlocals hc hs hdg ?_
  rw [show (if zI b < zI a then zI b else zI a) = zI (min a b) from by by_cases q : b < a; rw [if_pos ((zI_lt h2 h1).mpr q), Int.min_eq_right (by omega)]; rw [if_neg (fun z => q ((zI_lt h2 h1).mp z)), Int.min_eq_left (by omega)]]
  exact k
end ZR
