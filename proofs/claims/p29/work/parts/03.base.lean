/-! ints by their numbers: zI z is the int of the number z; every row of a walk speaks of zI -/
def zI (z : Int) : Int32 := Int32.ofInt z
theorem zI_add (x y : Int) : zI x + zI y = zI (x + y) := (Int32.ofInt_add x y).symm
theorem zI_sub (x y : Int) : zI x - zI y = zI (x - y) := (Int32.ofInt_sub x y).symm
theorem zI_mul (x y : Int) : zI x * zI y = zI (x * y) := (Int32.ofInt_mul x y).symm
theorem zI_neg (x : Int) : - zI x = zI (-x) := (Int32.ofInt_neg x).symm
theorem zI_toInt {x : Int} (h : -2147483648 ≤ x ∧ x < 2147483648) : (zI x).toInt = x := Int32.toInt_ofInt_of_le (by have := h.1; omega) (by have := h.2; omega)
theorem zI_lt {x y : Int} (hx : -2147483648 ≤ x ∧ x < 2147483648) (hy : -2147483648 ≤ y ∧ y < 2147483648) : zI x < zI y ↔ x < y := by
  rw [Int32.lt_iff_toInt_lt, zI_toInt hx, zI_toInt hy]
theorem zI_le {x y : Int} (hx : -2147483648 ≤ x ∧ x < 2147483648) (hy : -2147483648 ≤ y ∧ y < 2147483648) : zI x ≤ zI y ↔ x ≤ y := by
  rw [Int32.le_iff_toInt_le, zI_toInt hx, zI_toInt hy]
theorem zI_eq {x y : Int} (hx : -2147483648 ≤ x ∧ x < 2147483648) (hy : -2147483648 ≤ y ∧ y < 2147483648) : zI x = zI y ↔ x = y := by
  rw [← Int32.toInt_inj, zI_toInt hx, zI_toInt hy]
theorem zI_0 : zI 0 = 0 := by decide
theorem zI_of (x : Int32) : ∃ z : Int, (-2147483648 ≤ z ∧ z < 2147483648) ∧ x = zI z := by
  refine ⟨x.toInt, ⟨?_, ?_⟩, ?_⟩
  · have := Int32.le_toInt x; omega
  · have := Int32.toInt_lt x; omega
  · exact (Int32.ofInt_toInt x).symm
theorem zI_tdiv {x y : Int} (hx : -2147483648 < x ∧ x < 2147483648) (hy : -2147483648 ≤ y ∧ y < 2147483648) : zI x / zI y = zI (x.tdiv y) := by
  apply Int32.toInt_inj.mp
  rw [Int32.toInt_div, zI_toInt ⟨by omega, hx.2⟩, zI_toInt hy]
  have hb : -2147483648 < x.tdiv y ∧ x.tdiv y < 2147483648 := by
    have h1 : (x.tdiv y).natAbs ≤ x.natAbs := by rw [Int.natAbs_tdiv]; exact Nat.div_le_self _ _
    omega
  rw [zI_toInt ⟨by omega, hb.2⟩]
  exact Int.bmod_eq_of_le (by omega) (by omega)
theorem zI_trem {x y : Int} (hx : -2147483648 < x ∧ x < 2147483648) (hy : -2147483648 ≤ y ∧ y < 2147483648) : zI x - zI x / zI y * zI y = zI (x.tmod y) := by
  rw [zI_tdiv hx hy, zI_mul, zI_sub]
  exact congrArg zI (by rw [Int.tmod_def, Int.mul_comm])
theorem zI_div {x y : Int} (hx : 0 ≤ x ∧ x < 2147483648) (hy : 0 < y ∧ y < 2147483648) : zI x / zI y = zI (x / y) := by
  rw [zI_tdiv ⟨by omega, hx.2⟩ ⟨by omega, hy.2⟩, Int.tdiv_eq_ediv_of_nonneg hx.1]
theorem zI_rem {x y : Int} (hx : 0 ≤ x ∧ x < 2147483648) (hy : 0 < y ∧ y < 2147483648) : zI x - zI x / zI y * zI y = zI (x % y) := by
  rw [zI_trem ⟨by omega, hx.2⟩ ⟨by omega, hy.2⟩, Int.tmod_eq_emod_of_nonneg hx.1]
theorem zI_clamp {x : Int} (hx : 0 ≤ x ∧ x < 2147483648) : (zI x).toNatClampNeg = x.toNat := by
  rw [← Int32.toNat_toInt, zI_toInt ⟨by omega, hx.2⟩]
theorem zI_in {x : Int} {n : Nat} (h0 : 0 ≤ x) (h : x < n) (hn : n < 2147483648) : vp_in (zI x) n := by
  rw [vp_in_iff, zI_toInt ⟨by omega, by omega⟩]
  exact ⟨h0, h⟩
theorem zI_nI {n : Nat} (h : n < 2147483648) : nI n = zI n := by
  apply Int32.toInt_inj.mp
  rw [nI_toInt (by omega), zI_toInt ⟨by omega, by omega⟩]
section ZB
variable {p : Program} {l : Launch} {e : Env} {R : Room} {s : State} {m : MethodId} {args : Array Value} {below : List Frame} {meth : Method} {c : Code} {H : Heap} {locs : List Loc} {cells slots : Nat} {Q : State → Prop}
variable {cc : ByteArray} {pc : Nat} {ls : Array Slot} {rest : List Value}
theorem zb_iconst (hx : p.tables.exec = Jvm.exec) (hb : c.code = cc) {n : Int} (hdg : decode cc pc = .ok (.iconst n, 1)) (k : W p l e R s m args below meth c H locs cells slots Q (F0 m (pc + 1) ls (.int (zI n) :: rest))) : W p l e R s m args below meth c H locs cells slots Q (F0 m pc ls rest) := lv_iconst hx hb hdg rfl k
theorem zb_bipush (hx : p.tables.exec = Jvm.exec) (hb : c.code = cc) {n : Int} (hdg : decode cc pc = .ok (.bipush n, 2)) (hv : (Int8.ofInt n).toInt32 = zI n) (k : W p l e R s m args below meth c H locs cells slots Q (F0 m (pc + 2) ls (.int (zI n) :: rest))) : W p l e R s m args below meth c H locs cells slots Q (F0 m pc ls rest) := lv_bipush hx hb hdg hv k
theorem zb_sipush (hx : p.tables.exec = Jvm.exec) (hb : c.code = cc) {n : Int} (hdg : decode cc pc = .ok (.sipush n, 3)) (hv : (Int16.ofInt n).toInt32 = zI n) (k : W p l e R s m args below meth c H locs cells slots Q (F0 m (pc + 3) ls (.int (zI n) :: rest))) : W p l e R s m args below meth c H locs cells slots Q (F0 m pc ls rest) := lv_sipush hx hb hdg hv k
theorem zb_add (hx : p.tables.exec = Jvm.exec) (hb : c.code = cc) {x y : Int} (hdg : decode cc pc = .ok (.iadd, 1)) (k : W p l e R s m args below meth c H locs cells slots Q (F0 m (pc + 1) ls (.int (zI (x + y)) :: rest))) : W p l e R s m args below meth c H locs cells slots Q (F0 m pc ls (.int (zI y) :: .int (zI x) :: rest)) := lv_iadd hx hb hdg (by rw [zI_add]; exact k)
theorem zb_sub (hx : p.tables.exec = Jvm.exec) (hb : c.code = cc) {x y : Int} (hdg : decode cc pc = .ok (.isub, 1)) (k : W p l e R s m args below meth c H locs cells slots Q (F0 m (pc + 1) ls (.int (zI (x - y)) :: rest))) : W p l e R s m args below meth c H locs cells slots Q (F0 m pc ls (.int (zI y) :: .int (zI x) :: rest)) := lv_isub hx hb hdg (by rw [zI_sub]; exact k)
theorem zb_mul (hx : p.tables.exec = Jvm.exec) (hb : c.code = cc) {x y : Int} (hdg : decode cc pc = .ok (.imul, 1)) (k : W p l e R s m args below meth c H locs cells slots Q (F0 m (pc + 1) ls (.int (zI (x * y)) :: rest))) : W p l e R s m args below meth c H locs cells slots Q (F0 m pc ls (.int (zI y) :: .int (zI x) :: rest)) := lv_imul hx hb hdg (by rw [zI_mul]; exact k)
theorem zb_neg (hx : p.tables.exec = Jvm.exec) (hb : c.code = cc) {x : Int} (hdg : decode cc pc = .ok (.ineg, 1)) (k : W p l e R s m args below meth c H locs cells slots Q (F0 m (pc + 1) ls (.int (zI (-x)) :: rest))) : W p l e R s m args below meth c H locs cells slots Q (F0 m pc ls (.int (zI x) :: rest)) := lv_ineg hx hb hdg (by rw [zI_neg]; exact k)
theorem zb_nz {y : Int} (hy : -2147483648 ≤ y ∧ y < 2147483648) (h : y ≠ 0) : ¬ zI y = 0 := by
  rw [← zI_0, zI_eq hy (by decide)]; exact h
theorem zb_div (hx : p.tables.exec = Jvm.exec) (hb : c.code = cc) {x y : Int} (hdg : decode cc pc = .ok (.idiv, 1)) (h1 : 0 ≤ x ∧ x < 2147483648) (h2 : 0 < y ∧ y < 2147483648) (k : W p l e R s m args below meth c H locs cells slots Q (F0 m (pc + 1) ls (.int (zI (x / y)) :: rest))) : W p l e R s m args below meth c H locs cells slots Q (F0 m pc ls (.int (zI y) :: .int (zI x) :: rest)) := lv_idiv hx hb hdg (zb_nz ⟨by omega, by omega⟩ (by omega)) (by rw [zI_div h1 h2]; exact k)
theorem zb_rem (hx : p.tables.exec = Jvm.exec) (hb : c.code = cc) {x y : Int} (hdg : decode cc pc = .ok (.irem, 1)) (h1 : 0 ≤ x ∧ x < 2147483648) (h2 : 0 < y ∧ y < 2147483648) (k : W p l e R s m args below meth c H locs cells slots Q (F0 m (pc + 1) ls (.int (zI (x % y)) :: rest))) : W p l e R s m args below meth c H locs cells slots Q (F0 m pc ls (.int (zI y) :: .int (zI x) :: rest)) := lv_irem hx hb hdg (zb_nz ⟨by omega, by omega⟩ (by omega)) (by rw [zI_rem h1 h2]; exact k)
theorem zb_tdiv (hx : p.tables.exec = Jvm.exec) (hb : c.code = cc) {x y : Int} (hdg : decode cc pc = .ok (.idiv, 1)) (h1 : -2147483648 < x ∧ x < 2147483648) (h2 : 0 < y ∧ y < 2147483648) (k : W p l e R s m args below meth c H locs cells slots Q (F0 m (pc + 1) ls (.int (zI (x.tdiv y)) :: rest))) : W p l e R s m args below meth c H locs cells slots Q (F0 m pc ls (.int (zI y) :: .int (zI x) :: rest)) := lv_idiv hx hb hdg (zb_nz ⟨by omega, by omega⟩ (by omega)) (by rw [zI_tdiv h1 ⟨by omega, h2.2⟩]; exact k)
theorem zb_trem (hx : p.tables.exec = Jvm.exec) (hb : c.code = cc) {x y : Int} (hdg : decode cc pc = .ok (.irem, 1)) (h1 : -2147483648 < x ∧ x < 2147483648) (h2 : 0 < y ∧ y < 2147483648) (k : W p l e R s m args below meth c H locs cells slots Q (F0 m (pc + 1) ls (.int (zI (x.tmod y)) :: rest))) : W p l e R s m args below meth c H locs cells slots Q (F0 m pc ls (.int (zI y) :: .int (zI x) :: rest)) := lv_irem hx hb hdg (zb_nz ⟨by omega, by omega⟩ (by omega)) (by rw [zI_trem h1 ⟨by omega, h2.2⟩]; exact k)
/-- another name, or another form, for the number on top -/
theorem zb_as {x : Int} (y : Int) (h : x = y) (k : W p l e R s m args below meth c H locs cells slots Q (F0 m pc ls (.int (zI y) :: rest))) : W p l e R s m args below meth c H locs cells slots Q (F0 m pc ls (.int (zI x) :: rest)) := by subst h; exact k
theorem zb_nm {x : Int} (k : ∀ y : Int, y = x → W p l e R s m args below meth c H locs cells slots Q (F0 m pc ls (.int (zI y) :: rest))) : W p l e R s m args below meth c H locs cells slots Q (F0 m pc ls (.int (zI x) :: rest)) := k x rfl
theorem zb_to {v w : Value} (h : v = w) (k : W p l e R s m args below meth c H locs cells slots Q (F0 m pc ls (w :: rest))) : W p l e R s m args below meth c H locs cells slots Q (F0 m pc ls (v :: rest)) := by subst h; exact k
theorem zb_join (I : Int → Prop) {pcj : Nat} {lj : Array Slot} {rj : List Value} {g : JFrame} (kk : ∀ z : Int, I z → W p l e R s m args below meth c H locs cells slots Q (F0 m pcj lj (.int (zI z) :: rj))) (br : (∀ z : Int, I z → W p l e R s m args below meth c H locs cells slots Q (F0 m pcj lj (.int (zI z) :: rj))) → W p l e R s m args below meth c H locs cells slots Q g) : W p l e R s m args below meth c H locs cells slots Q g := br kk
theorem zb_iinc (hx : p.tables.exec = Jvm.exec) (hb : c.code = cc) {i nL k : Nat} {n x : Int} {lv lv' : List (Nat × Value)} (hdg : decode cc pc = .ok (.iinc i n, 3)) (h : lv_has ls nL lv) (hk : lv[k]? = some (i, .int (zI x))) (hn : i < nL) (hl : (i, Value.int (zI (x + n))) :: lv.filter (fun q => !(q.1 == i) && !(q.1 + 1 == i && q.2.category == 2)) = lv')
    (kk : ∀ ls' : Array Slot, lv_has ls' nL lv' → W p l e R s m args below meth c H locs cells slots Q (F0 m (pc + 3) ls' rest)) : W p l e R s m args below meth c H locs cells slots Q (F0 m pc ls rest) := lv_iinc hx hb hdg h hk (zI_add x n) hn hl kk
theorem zb_ceq (hx : p.tables.exec = Jvm.exec) (hb : c.code = cc) {x y : Int} {off : Int} {tgt : Nat} (hdg : decode cc pc = .ok (.if_icmp .eq off, 3)) (ht : (pc : Int) + off = (tgt : Int)) (hX : -2147483648 ≤ x ∧ x < 2147483648) (hY : -2147483648 ≤ y ∧ y < 2147483648)
    (kt : x = y → W p l e R s m args below meth c H locs cells slots Q (F0 m tgt ls rest)) (kf : ¬ x = y → W p l e R s m args below meth c H locs cells slots Q (F0 m (pc + 3) ls rest)) : W p l e R s m args below meth c H locs cells slots Q (F0 m pc ls (.int (zI y) :: .int (zI x) :: rest)) := lv_icmp_eq hx hb hdg ht (fun h => kt ((zI_eq hX hY).mp h)) (fun h => kf (fun q => h ((zI_eq hX hY).mpr q)))
theorem zb_ieq (hx : p.tables.exec = Jvm.exec) (hb : c.code = cc) {x : Int} {off : Int} {tgt : Nat} (hdg : decode cc pc = .ok (.ifCond .eq off, 3)) (ht : (pc : Int) + off = (tgt : Int)) (hX : -2147483648 ≤ x ∧ x < 2147483648)
    (kt : x = 0 → W p l e R s m args below meth c H locs cells slots Q (F0 m tgt ls rest)) (kf : ¬ x = 0 → W p l e R s m args below meth c H locs cells slots Q (F0 m (pc + 3) ls rest)) : W p l e R s m args below meth c H locs cells slots Q (F0 m pc ls (.int (zI x) :: rest)) := by
  have hY : -2147483648 ≤ (0 : Int) ∧ (0 : Int) < 2147483648 := by decide
  exact lv_if_eq hx hb hdg ht (fun h => by rw [← zI_0] at h; exact kt ((zI_eq hX hY).mp h)) (fun h => by rw [← zI_0] at h; exact kf (fun q => h ((zI_eq hX hY).mpr q)))
theorem zb_cne (hx : p.tables.exec = Jvm.exec) (hb : c.code = cc) {x y : Int} {off : Int} {tgt : Nat} (hdg : decode cc pc = .ok (.if_icmp .ne off, 3)) (ht : (pc : Int) + off = (tgt : Int)) (hX : -2147483648 ≤ x ∧ x < 2147483648) (hY : -2147483648 ≤ y ∧ y < 2147483648)
    (kt : ¬ x = y → W p l e R s m args below meth c H locs cells slots Q (F0 m tgt ls rest)) (kf : x = y → W p l e R s m args below meth c H locs cells slots Q (F0 m (pc + 3) ls rest)) : W p l e R s m args below meth c H locs cells slots Q (F0 m pc ls (.int (zI y) :: .int (zI x) :: rest)) := lv_icmp_ne hx hb hdg ht (fun h => kt (fun q => h ((zI_eq hX hY).mpr q))) (fun h => kf ((zI_eq hX hY).mp h))
theorem zb_ine (hx : p.tables.exec = Jvm.exec) (hb : c.code = cc) {x : Int} {off : Int} {tgt : Nat} (hdg : decode cc pc = .ok (.ifCond .ne off, 3)) (ht : (pc : Int) + off = (tgt : Int)) (hX : -2147483648 ≤ x ∧ x < 2147483648)
    (kt : ¬ x = 0 → W p l e R s m args below meth c H locs cells slots Q (F0 m tgt ls rest)) (kf : x = 0 → W p l e R s m args below meth c H locs cells slots Q (F0 m (pc + 3) ls rest)) : W p l e R s m args below meth c H locs cells slots Q (F0 m pc ls (.int (zI x) :: rest)) := by
  have hY : -2147483648 ≤ (0 : Int) ∧ (0 : Int) < 2147483648 := by decide
  exact lv_if_ne hx hb hdg ht (fun h => by rw [← zI_0] at h; exact kt (fun q => h ((zI_eq hX hY).mpr q))) (fun h => by rw [← zI_0] at h; exact kf ((zI_eq hX hY).mp h))
theorem zb_clt (hx : p.tables.exec = Jvm.exec) (hb : c.code = cc) {x y : Int} {off : Int} {tgt : Nat} (hdg : decode cc pc = .ok (.if_icmp .lt off, 3)) (ht : (pc : Int) + off = (tgt : Int)) (hX : -2147483648 ≤ x ∧ x < 2147483648) (hY : -2147483648 ≤ y ∧ y < 2147483648)
    (kt : x < y → W p l e R s m args below meth c H locs cells slots Q (F0 m tgt ls rest)) (kf : ¬ x < y → W p l e R s m args below meth c H locs cells slots Q (F0 m (pc + 3) ls rest)) : W p l e R s m args below meth c H locs cells slots Q (F0 m pc ls (.int (zI y) :: .int (zI x) :: rest)) := lv_icmp_lt hx hb hdg ht (fun h => kt ((zI_lt hX hY).mp h)) (fun h => kf (fun q => h ((zI_lt hX hY).mpr q)))
theorem zb_ilt (hx : p.tables.exec = Jvm.exec) (hb : c.code = cc) {x : Int} {off : Int} {tgt : Nat} (hdg : decode cc pc = .ok (.ifCond .lt off, 3)) (ht : (pc : Int) + off = (tgt : Int)) (hX : -2147483648 ≤ x ∧ x < 2147483648)
    (kt : x < 0 → W p l e R s m args below meth c H locs cells slots Q (F0 m tgt ls rest)) (kf : ¬ x < 0 → W p l e R s m args below meth c H locs cells slots Q (F0 m (pc + 3) ls rest)) : W p l e R s m args below meth c H locs cells slots Q (F0 m pc ls (.int (zI x) :: rest)) := by
  have hY : -2147483648 ≤ (0 : Int) ∧ (0 : Int) < 2147483648 := by decide
  exact lv_if_lt hx hb hdg ht (fun h => by rw [← zI_0] at h; exact kt ((zI_lt hX hY).mp h)) (fun h => by rw [← zI_0] at h; exact kf (fun q => h ((zI_lt hX hY).mpr q)))
theorem zb_cge (hx : p.tables.exec = Jvm.exec) (hb : c.code = cc) {x y : Int} {off : Int} {tgt : Nat} (hdg : decode cc pc = .ok (.if_icmp .ge off, 3)) (ht : (pc : Int) + off = (tgt : Int)) (hX : -2147483648 ≤ x ∧ x < 2147483648) (hY : -2147483648 ≤ y ∧ y < 2147483648)
    (kt : y ≤ x → W p l e R s m args below meth c H locs cells slots Q (F0 m tgt ls rest)) (kf : ¬ y ≤ x → W p l e R s m args below meth c H locs cells slots Q (F0 m (pc + 3) ls rest)) : W p l e R s m args below meth c H locs cells slots Q (F0 m pc ls (.int (zI y) :: .int (zI x) :: rest)) := lv_icmp_ge hx hb hdg ht (fun h => kt ((zI_le hY hX).mp h)) (fun h => kf (fun q => h ((zI_le hY hX).mpr q)))
theorem zb_ige (hx : p.tables.exec = Jvm.exec) (hb : c.code = cc) {x : Int} {off : Int} {tgt : Nat} (hdg : decode cc pc = .ok (.ifCond .ge off, 3)) (ht : (pc : Int) + off = (tgt : Int)) (hX : -2147483648 ≤ x ∧ x < 2147483648)
    (kt : 0 ≤ x → W p l e R s m args below meth c H locs cells slots Q (F0 m tgt ls rest)) (kf : ¬ 0 ≤ x → W p l e R s m args below meth c H locs cells slots Q (F0 m (pc + 3) ls rest)) : W p l e R s m args below meth c H locs cells slots Q (F0 m pc ls (.int (zI x) :: rest)) := by
  have hY : -2147483648 ≤ (0 : Int) ∧ (0 : Int) < 2147483648 := by decide
  exact lv_if_ge hx hb hdg ht (fun h => by rw [← zI_0] at h; exact kt ((zI_le hY hX).mp h)) (fun h => by rw [← zI_0] at h; exact kf (fun q => h ((zI_le hY hX).mpr q)))
theorem zb_cgt (hx : p.tables.exec = Jvm.exec) (hb : c.code = cc) {x y : Int} {off : Int} {tgt : Nat} (hdg : decode cc pc = .ok (.if_icmp .gt off, 3)) (ht : (pc : Int) + off = (tgt : Int)) (hX : -2147483648 ≤ x ∧ x < 2147483648) (hY : -2147483648 ≤ y ∧ y < 2147483648)
    (kt : y < x → W p l e R s m args below meth c H locs cells slots Q (F0 m tgt ls rest)) (kf : ¬ y < x → W p l e R s m args below meth c H locs cells slots Q (F0 m (pc + 3) ls rest)) : W p l e R s m args below meth c H locs cells slots Q (F0 m pc ls (.int (zI y) :: .int (zI x) :: rest)) := lv_icmp_gt hx hb hdg ht (fun h => kt ((zI_lt hY hX).mp h)) (fun h => kf (fun q => h ((zI_lt hY hX).mpr q)))
theorem zb_igt (hx : p.tables.exec = Jvm.exec) (hb : c.code = cc) {x : Int} {off : Int} {tgt : Nat} (hdg : decode cc pc = .ok (.ifCond .gt off, 3)) (ht : (pc : Int) + off = (tgt : Int)) (hX : -2147483648 ≤ x ∧ x < 2147483648)
    (kt : 0 < x → W p l e R s m args below meth c H locs cells slots Q (F0 m tgt ls rest)) (kf : ¬ 0 < x → W p l e R s m args below meth c H locs cells slots Q (F0 m (pc + 3) ls rest)) : W p l e R s m args below meth c H locs cells slots Q (F0 m pc ls (.int (zI x) :: rest)) := by
  have hY : -2147483648 ≤ (0 : Int) ∧ (0 : Int) < 2147483648 := by decide
  exact lv_if_gt hx hb hdg ht (fun h => by rw [← zI_0] at h; exact kt ((zI_lt hY hX).mp h)) (fun h => by rw [← zI_0] at h; exact kf (fun q => h ((zI_lt hY hX).mpr q)))
theorem zb_cle (hx : p.tables.exec = Jvm.exec) (hb : c.code = cc) {x y : Int} {off : Int} {tgt : Nat} (hdg : decode cc pc = .ok (.if_icmp .le off, 3)) (ht : (pc : Int) + off = (tgt : Int)) (hX : -2147483648 ≤ x ∧ x < 2147483648) (hY : -2147483648 ≤ y ∧ y < 2147483648)
    (kt : x ≤ y → W p l e R s m args below meth c H locs cells slots Q (F0 m tgt ls rest)) (kf : ¬ x ≤ y → W p l e R s m args below meth c H locs cells slots Q (F0 m (pc + 3) ls rest)) : W p l e R s m args below meth c H locs cells slots Q (F0 m pc ls (.int (zI y) :: .int (zI x) :: rest)) := lv_icmp_le hx hb hdg ht (fun h => kt ((zI_le hX hY).mp h)) (fun h => kf (fun q => h ((zI_le hX hY).mpr q)))
theorem zb_ile (hx : p.tables.exec = Jvm.exec) (hb : c.code = cc) {x : Int} {off : Int} {tgt : Nat} (hdg : decode cc pc = .ok (.ifCond .le off, 3)) (ht : (pc : Int) + off = (tgt : Int)) (hX : -2147483648 ≤ x ∧ x < 2147483648)
    (kt : x ≤ 0 → W p l e R s m args below meth c H locs cells slots Q (F0 m tgt ls rest)) (kf : ¬ x ≤ 0 → W p l e R s m args below meth c H locs cells slots Q (F0 m (pc + 3) ls rest)) : W p l e R s m args below meth c H locs cells slots Q (F0 m pc ls (.int (zI x) :: rest)) := by
  have hY : -2147483648 ≤ (0 : Int) ∧ (0 : Int) < 2147483648 := by decide
  exact lv_if_le hx hb hdg ht (fun h => by rw [← zI_0] at h; exact kt ((zI_le hX hY).mp h)) (fun h => by rw [← zI_0] at h; exact kf (fun q => h ((zI_le hX hY).mpr q)))
theorem zb_lp1 {nL : Nat} (I : Int → Prop) (lv : Int → List (Nat × Value)) (μ : Int → Int) (a0 : Int) (h : I a0) (hl : lv_has ls nL (lv a0))
    (step : ∀ (a0 : Int) (ls : Array Slot), I a0 → lv_has ls nL (lv a0) → (∀ (b0 : Int) (ls' : Array Slot), I b0 → (0 ≤ μ b0 ∧ μ b0 < μ a0) → lv_has ls' nL (lv b0) → W p l e R s m args below meth c H locs cells slots Q (F0 m pc ls' [])) → W p l e R s m args below meth c H locs cells slots Q (F0 m pc ls [])) : W p l e R s m args below meth c H locs cells slots Q (F0 m pc ls []) := by
  have key : ∀ (n : Nat) (a0 : Int) (ls : Array Slot), I a0 → lv_has ls nL (lv a0) → (μ a0).toNat < n → W p l e R s m args below meth c H locs cells slots Q (F0 m pc ls []) := by
    intro n
    induction n with
    | zero => intro a0 ls _ _ h; exact absurd h (Nat.not_lt_zero _)
    | succ n ih => intro a0 ls hI hl hn; exact step a0 ls hI hl (fun b0 ls' h1 h2 h3 => ih b0 ls' h1 h3 (by omega))
  exact key _ a0 ls h hl (Nat.lt_succ_self _)
theorem zb_lp2 {nL : Nat} (I : Int → Int → Prop) (lv : Int → Int → List (Nat × Value)) (μ : Int → Int → Int) (a0 a1 : Int) (h : I a0 a1) (hl : lv_has ls nL (lv a0 a1))
    (step : ∀ (a0 a1 : Int) (ls : Array Slot), I a0 a1 → lv_has ls nL (lv a0 a1) → (∀ (b0 b1 : Int) (ls' : Array Slot), I b0 b1 → (0 ≤ μ b0 b1 ∧ μ b0 b1 < μ a0 a1) → lv_has ls' nL (lv b0 b1) → W p l e R s m args below meth c H locs cells slots Q (F0 m pc ls' [])) → W p l e R s m args below meth c H locs cells slots Q (F0 m pc ls [])) : W p l e R s m args below meth c H locs cells slots Q (F0 m pc ls []) := by
  have key : ∀ (n : Nat) (a0 a1 : Int) (ls : Array Slot), I a0 a1 → lv_has ls nL (lv a0 a1) → (μ a0 a1).toNat < n → W p l e R s m args below meth c H locs cells slots Q (F0 m pc ls []) := by
    intro n
    induction n with
    | zero => intro a0 a1 ls _ _ h; exact absurd h (Nat.not_lt_zero _)
    | succ n ih => intro a0 a1 ls hI hl hn; exact step a0 a1 ls hI hl (fun b0 b1 ls' h1 h2 h3 => ih b0 b1 ls' h1 h3 (by omega))
  exact key _ a0 a1 ls h hl (Nat.lt_succ_self _)
theorem zb_lp3 {nL : Nat} (I : Int → Int → Int → Prop) (lv : Int → Int → Int → List (Nat × Value)) (μ : Int → Int → Int → Int) (a0 a1 a2 : Int) (h : I a0 a1 a2) (hl : lv_has ls nL (lv a0 a1 a2))
    (step : ∀ (a0 a1 a2 : Int) (ls : Array Slot), I a0 a1 a2 → lv_has ls nL (lv a0 a1 a2) → (∀ (b0 b1 b2 : Int) (ls' : Array Slot), I b0 b1 b2 → (0 ≤ μ b0 b1 b2 ∧ μ b0 b1 b2 < μ a0 a1 a2) → lv_has ls' nL (lv b0 b1 b2) → W p l e R s m args below meth c H locs cells slots Q (F0 m pc ls' [])) → W p l e R s m args below meth c H locs cells slots Q (F0 m pc ls [])) : W p l e R s m args below meth c H locs cells slots Q (F0 m pc ls []) := by
  have key : ∀ (n : Nat) (a0 a1 a2 : Int) (ls : Array Slot), I a0 a1 a2 → lv_has ls nL (lv a0 a1 a2) → (μ a0 a1 a2).toNat < n → W p l e R s m args below meth c H locs cells slots Q (F0 m pc ls []) := by
    intro n
    induction n with
    | zero => intro a0 a1 a2 ls _ _ h; exact absurd h (Nat.not_lt_zero _)
    | succ n ih => intro a0 a1 a2 ls hI hl hn; exact step a0 a1 a2 ls hI hl (fun b0 b1 b2 ls' h1 h2 h3 => ih b0 b1 b2 ls' h1 h3 (by omega))
  exact key _ a0 a1 a2 ls h hl (Nat.lt_succ_self _)
theorem zb_lp4 {nL : Nat} (I : Int → Int → Int → Int → Prop) (lv : Int → Int → Int → Int → List (Nat × Value)) (μ : Int → Int → Int → Int → Int) (a0 a1 a2 a3 : Int) (h : I a0 a1 a2 a3) (hl : lv_has ls nL (lv a0 a1 a2 a3))
    (step : ∀ (a0 a1 a2 a3 : Int) (ls : Array Slot), I a0 a1 a2 a3 → lv_has ls nL (lv a0 a1 a2 a3) → (∀ (b0 b1 b2 b3 : Int) (ls' : Array Slot), I b0 b1 b2 b3 → (0 ≤ μ b0 b1 b2 b3 ∧ μ b0 b1 b2 b3 < μ a0 a1 a2 a3) → lv_has ls' nL (lv b0 b1 b2 b3) → W p l e R s m args below meth c H locs cells slots Q (F0 m pc ls' [])) → W p l e R s m args below meth c H locs cells slots Q (F0 m pc ls [])) : W p l e R s m args below meth c H locs cells slots Q (F0 m pc ls []) := by
  have key : ∀ (n : Nat) (a0 a1 a2 a3 : Int) (ls : Array Slot), I a0 a1 a2 a3 → lv_has ls nL (lv a0 a1 a2 a3) → (μ a0 a1 a2 a3).toNat < n → W p l e R s m args below meth c H locs cells slots Q (F0 m pc ls []) := by
    intro n
    induction n with
    | zero => intro a0 a1 a2 a3 ls _ _ h; exact absurd h (Nat.not_lt_zero _)
    | succ n ih => intro a0 a1 a2 a3 ls hI hl hn; exact step a0 a1 a2 a3 ls hI hl (fun b0 b1 b2 b3 ls' h1 h2 h3 => ih b0 b1 b2 b3 ls' h1 h3 (by omega))
  exact key _ a0 a1 a2 a3 ls h hl (Nat.lt_succ_self _)
theorem zb_lp5 {nL : Nat} (I : Int → Int → Int → Int → Int → Prop) (lv : Int → Int → Int → Int → Int → List (Nat × Value)) (μ : Int → Int → Int → Int → Int → Int) (a0 a1 a2 a3 a4 : Int) (h : I a0 a1 a2 a3 a4) (hl : lv_has ls nL (lv a0 a1 a2 a3 a4))
    (step : ∀ (a0 a1 a2 a3 a4 : Int) (ls : Array Slot), I a0 a1 a2 a3 a4 → lv_has ls nL (lv a0 a1 a2 a3 a4) → (∀ (b0 b1 b2 b3 b4 : Int) (ls' : Array Slot), I b0 b1 b2 b3 b4 → (0 ≤ μ b0 b1 b2 b3 b4 ∧ μ b0 b1 b2 b3 b4 < μ a0 a1 a2 a3 a4) → lv_has ls' nL (lv b0 b1 b2 b3 b4) → W p l e R s m args below meth c H locs cells slots Q (F0 m pc ls' [])) → W p l e R s m args below meth c H locs cells slots Q (F0 m pc ls [])) : W p l e R s m args below meth c H locs cells slots Q (F0 m pc ls []) := by
  have key : ∀ (n : Nat) (a0 a1 a2 a3 a4 : Int) (ls : Array Slot), I a0 a1 a2 a3 a4 → lv_has ls nL (lv a0 a1 a2 a3 a4) → (μ a0 a1 a2 a3 a4).toNat < n → W p l e R s m args below meth c H locs cells slots Q (F0 m pc ls []) := by
    intro n
    induction n with
    | zero => intro a0 a1 a2 a3 a4 ls _ _ h; exact absurd h (Nat.not_lt_zero _)
    | succ n ih => intro a0 a1 a2 a3 a4 ls hI hl hn; exact step a0 a1 a2 a3 a4 ls hI hl (fun b0 b1 b2 b3 b4 ls' h1 h2 h3 => ih b0 b1 b2 b3 b4 ls' h1 h3 (by omega))
  exact key _ a0 a1 a2 a3 a4 ls h hl (Nat.lt_succ_self _)
end ZB
/-! a method that only reads: it hands back the int of v, and the heap is what it was -/
abbrev aw_rm (f n : Nat) : Room := { frames := f, cells := 0, slots := 0, locals := n }
def aw_Q (v : Int) : Array Value → State → Outcome → State → Prop := fun _ st oc t => oc = .returned (some (.int (zI v))) ∧ t.heap = st.heap
def aw_Pc (D : va_G) (tys : List (ClassId × FieldType)) (ws : va_W) (av : List Value) : Array Value → State → Prop := va_Pc av (fun U => va_P D vwCl ws U.heap ∧ va_K D vwCl tys U)
def aw_RO (l : Launch) (y : MethodName) (wds : List Cond) (rm : Room) (D : va_G) (tys : List (ClassId × FieldType)) (ws : va_W) (av : List Value) (v : Int) : Prop := Met l y wds rm (aw_Pc D tys ws av) (aw_Q v) 0 0 (fun _ => False)
theorem aw_blind {D : va_G} {tys : List (ClassId × FieldType)} {ws : va_W} {av : List Value} : FrameBlind (aw_Pc D tys ws av) := fun a U g mk q => by
  obtain ⟨q1, q2, q3⟩ := q
  exact ⟨q1, q2, va_K.moved (u := U) (U := U.calling g mk a) (Vm.Alike.refl U.vm) q3⟩
section AW
variable {p : Program} {l : Launch} {e : Env} {R : Room} {s : State} {m : MethodId} {args : Array Value} {below : List Frame} {meth : Method} {c : Code} {H : Heap} {locs : List Loc} {cells slots : Nat} {Q : State → Prop}
variable {cc bytes : ByteArray} {pc nL n index maxL : Nat} {ls : Array Slot} {rest As st0 : List Value} {D : va_G} {tys : List (ClassId × FieldType)} {ws : va_W} {y : MethodName} {wds Ts : List Cond} {rm : Room} {v : Int} {own : String} {ret : Option FieldType}
theorem aw_run {args2 : Array Value} (hr : va_Run p l e R s m args below meth c H locs cells slots 0 0 (F0 m pc ls st0) rest (aw_Q v args2) (fun _ => False))
    (kk : W p l e R s m args below meth c H locs cells slots Q (F0 m (pc + 3) ls (.int (zI v) :: rest))) : W p l e R s m args below meth c H locs cells slots Q (F0 m pc ls st0) := by
  intro T hT X
  obtain ⟨v', st₀, t, T', L, h0, X', hL, e1, e2, ⟨hv, hh⟩, st⟩ := hr T hT X
  cases hv
  have hLn : L = [] := List.eq_nil_iff_forall_not_mem.mpr (fun q hq => hL q hq)
  subst hLn
  rw [List.append_nil] at X'
  obtain ⟨t2, a1, b1⟩ := kk T' (by rw [e1, hh, h0]) X'
  exact ⟨t2, st t2 a1, b1⟩
theorem aw_callV {b ci : Nat} {q : vw_C} {fs : List Value} (S : CallFix p m c cc nL s args Ts own) (hM : aw_RO l y wds rm D tys ws (.ref b :: As) v) (cw : CallW R s args own q.1 index y bytes maxL ret wds rm 0 0 n) (hP : va_P D vwCl ws H) (hK : va_K D vwCl tys s) (hc : vwCl[ci]? = some q) (he : ws[0]? = some (b, .inr (ci, fs)))
    (hn : As.length = n) (hsize : ls.size = nL) (hst : st0 = As.reverse ++ .ref b :: rest) (hW : (rest.map fun v => v.category).sum ≤ 8) (hdg : decode cc pc = .ok (.invokevirtual index, 3)) (hcs : cells ≤ R.cells ∧ slots ≤ R.slots)
    (kk : W p l e R s m args below meth c H locs cells slots Q (F0 m (pc + 3) ls (.int (zI v) :: rest))) : W p l e R s m args below meth c H locs cells slots Q (F0 m pc ls st0) :=
  aw_run (va_runV S hM cw ⟨aw_blind, va_recv hK hP hc he, fun U hU hW => ⟨rfl, by rw [hU]; exact hP, va_K.moved hW.alike hK⟩⟩ rfl hn hsize hst (lv_room hW) hdg hcs) kk
theorem aw_callS (S : CallFix p m c cc nL s args Ts own) (hM : aw_RO l y wds rm D tys ws As v) (cw : CallB R s args own index y bytes maxL ret wds rm 0 0 n ∧ (Cond.static y).before args s = true) (hP : va_P D vwCl ws H) (hK : va_K D vwCl tys s)
    (hn : As.length = n) (hsize : ls.size = nL) (hst : st0 = As.reverse ++ rest) (hW : (rest.map fun v => v.category).sum ≤ 8) (hdg : decode cc pc = .ok (.invokestatic index, 3)) (hcs : cells ≤ R.cells ∧ slots ≤ R.slots)
    (kk : W p l e R s m args below meth c H locs cells slots Q (F0 m (pc + 3) ls (.int (zI v) :: rest))) : W p l e R s m args below meth c H locs cells slots Q (F0 m pc ls st0) :=
  aw_run (va_runS S hM cw ⟨aw_blind, fun U hU hW => ⟨rfl, by rw [hU]; exact hP, va_K.moved hW.alike hK⟩⟩ rfl hn hsize hst (lv_room hW) hdg hcs) kk
theorem aw_iret {v w : Int} (hx : p.tables.exec = Jvm.exec) (hb : c.code = cc) (hr : meth.sig.returnType = some .int) (hlocks : meth.locks = false) (hdg : decode cc pc = .ok (.ireturn, 1)) (hvw : w = v) : W p l e R s m args below meth c s.heap [] cells slots (MQ below (aw_Q v) args s cells slots (fun _ => False)) (F0 m pc ls [.int (zI w)]) :=
  W.iret hx hb hr (fun t ht _ => ⟨by rw [hvw], ht⟩) (fun q hq => by cases hq) hdg hlocks
theorem aw_zret {v w : Int} (hx : p.tables.exec = Jvm.exec) (hb : c.code = cc) (hr : meth.sig.returnType = some .boolean) (hlocks : meth.locks = false) (hdg : decode cc pc = .ok (.ireturn, 1)) (h01 : w = 0 ∨ w = 1) (hvw : w = v) : W p l e R s m args below meth c s.heap [] cells slots (MQ below (aw_Q v) args s cells slots (fun _ => False)) (F0 m pc ls [.int (zI w)]) :=
  W.zret hx hb hr (by rcases h01 with rfl | rfl <;> decide) (fun t ht _ => ⟨by rw [hvw], ht⟩) (fun q hq => by cases hq) hdg hlocks
end AW
/-! the cells: the object, its two rows, the law's two rows -/
abbrev aw_T (yZ yI : ClassId) : List (ClassId × FieldType) := [(yZ, .boolean), (yI, .int)]
def aw_b (b : Bool) : Int := if b = true then 1 else 0
def aw_f (ob : Int → Bool) : Nat → Int32 := fun j => zI (aw_b (ob j))
def aw_d (dv : Nat → Int) : Nat → Int32 := fun j => zI (dv j)
abbrev aw_W3 (yZ yI : ClassId) (o oa ba : Nat) (P S K N : Int) (ty px pr : Int32) (w ch : Int) (ob : Int → Bool) (g : Nat → Int32) : va_W := [(o, .inr (0, [.int (zI P), .int (zI S), .int (zI K), .int (zI N), .int ty, .int px, .int pr, .int (zI w), .int (zI ch), .ref oa, .ref ba])), (oa, .inl (yZ, 72, .inl (aw_f ob))), (ba, .inl (yI, 72, .inl g))]
abbrev aw_Dr (yI : ClassId) (da : Nat) (dv : Nat → Int) : Nat × va_E := (da, .inl (yI, 9, .inl (aw_d dv)))
abbrev aw_Mr (yI : ClassId) (pa : Nat) (pf : Nat → Int32) : Nat × va_E := (pa, .inl (yI, 3, .inl pf))
abbrev aw_W5 (yZ yI : ClassId) (o oa ba da pa : Nat) (dv : Nat → Int) (pf : Nat → Int32) (ty px pr : Int32) (ob : Int → Bool) (g : Nat → Int32) : va_W := [(o, .inr (0, [.int (zI (dv 0)), .int (zI (dv 1)), .int (zI (dv 2)), .int (zI (dv 3)), .int ty, .int px, .int pr, .int (zI (dv 7)), .int (zI (dv 8)), .ref oa, .ref ba])), (oa, .inl (yZ, 72, .inl (aw_f ob))), (ba, .inl (yI, 72, .inl g)), aw_Dr yI da dv, aw_Mr yI pa pf]
section AR
variable {p : Program} {l : Launch} {e : Env} {R : Room} {s : State} {m : MethodId} {args : Array Value} {below : List Frame} {meth : Method} {c : Code} {H : Heap} {locs : List Loc} {cells slots : Nat} {Q : State → Prop}
variable {cc : ByteArray} {pc : Nat} {ls : Array Slot} {rest : List Value} {D : va_G} {tys : List (ClassId × FieldType)} {ws : va_W} {yI yZ : ClassId}
/-- a place of the law's row of numbers -/
theorem aw_dld (hx : p.tables.exec = Jvm.exec) (hb : c.code = cc) (hK : va_K D vwCl tys s) (hP : va_P D vwCl ws H) (q0 t0 : Nat) {a : Nat} {dv : Nat → Int} (ha : ws[q0]? = some (a, .inl (yI, 9, .inl (aw_d dv)))) (ht : tys[t0]? = some (yI, .int)) (k : Nat) (hk : k < 9) (hdg : decode cc pc = .ok (.iaload, 1))
    (kk : W p l e R s m args below meth c H locs cells slots Q (F0 m (pc + 1) ls (.int (zI (dv k)) :: rest))) : W p l e R s m args below meth c H locs cells slots Q (F0 m pc ls (.int (zI (k : Int)) :: .ref a :: rest)) :=
  va_iald hx hb hK hP q0 t0 ha ht (zI_in (by omega) (by omega) (by omega)) hdg (by rw [zI_clamp (by omega)]; exact kk)
/-- a place of the row that tells of each coil whether it is interrupted -/
theorem aw_zld (hx : p.tables.exec = Jvm.exec) (hb : c.code = cc) (hK : va_K D vwCl tys s) (hP : va_P D vwCl ws H) (q0 t0 : Nat) {a : Nat} {ob : Int → Bool} (ha : ws[q0]? = some (a, .inl (yZ, 72, .inl (aw_f ob)))) (ht : tys[t0]? = some (yZ, .boolean)) {x : Int} (h0 : 0 ≤ x) (h1 : x < 72) (hdg : decode cc pc = .ok (.baload, 1))
    (kk : W p l e R s m args below meth c H locs cells slots Q (F0 m (pc + 1) ls (.int (zI (aw_b (ob x))) :: rest))) : W p l e R s m args below meth c H locs cells slots Q (F0 m pc ls (.int (zI x) :: .ref a :: rest)) :=
  va_zald hx hb hK hP q0 t0 ha ht (zI_in h0 (by omega) (by omega)) hdg (by rw [zI_clamp (by omega)]; unfold aw_f; rw [show ((x.toNat : Nat) : Int) = x from by omega]; exact kk)
end AR
