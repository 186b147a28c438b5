abbrev aw_new (h0 : Nat) : Nat × va_E := (h0, .inr (0, [.int 0, .int 0, .int 0, .int 0, .int 0, .int 0, .int 0, .int 0, .int 0, .null, .null]))
theorem aw_f0 : aw_f (fun _ => false) = fun _ => 0 := by
  funext j
  show zI (aw_b false) = 0
  decide
abbrev aw_I : Type := (Int → Bool) × (Nat → Int32)
set_option maxHeartbeats 4000000 in
set_option maxRecDepth 100000 in
/-- the constructor: two rows are made; the armature of 4 poles, 12 slots, one coil a slot -/
theorem k_init (l : Launch) (D : va_G) (h0 sz : Nat) : Met l yX0_init wsX0_init ({ frames := 3, cells := 2, slots := 144, locals := 67 }) (va_Pc [.ref h0] (fun U => U.heap.size = sz ∧ va_P D vwCl [aw_new h0] U.heap ∧ va_K D vwCl [] U ∧ va_D (fun _ => True) [aw_new h0]))
    (va_Qv (fun u : aw_I => ∀ z : Int, 0 ≤ z → z < 72 → u.1 z = false) (fun u t => ∃ (yZ yI : ClassId) (oa ba : Nat), va_P D vwCl (aw_W3 yZ yI h0 oa ba 4 12 1 (12 * 1) (zI 0) (zI 1) (zI 1) 1 0 u.1 u.2) t.heap ∧ va_K D vwCl (aw_T yZ yI) t ∧ va_D (va_A [aw_new h0] sz) (aw_W3 yZ yI h0 oa ba 4 12 1 (12 * 1) (zI 0) (zI 1) (zI 1) 1 0 u.1 u.2)) (va_A [aw_new h0] sz)) 2 144 (va_A [aw_new h0] sz) := by
  refine Met.ofW (cc := cX0_init) (maxL := 1) (ret := none) (by decide) rfl ?_
  intro p e s m args below meth c s₁ B hml hv
  obtain ⟨rfl, hsz, hP, hK, hD0⟩ := hv
  have hx := B.exec
  have hb := B.bytes
  have hr := B.returns
  have hts := atoms_spec (ws := wsX0_init) B.pre
  have hown : s.vm.findClass RX0 = some m.cls := findClass_of_methodNamed B.named
  have hlocks := B.notSynchronized
  have hin2 : meth.name = "<init>" := (name_of_methodNamed B.named B.method).1
  have hin : ∀ w ∈ wsX00, w ∈ wsX0_init := fun w h => List.mem_cons_of_mem _ (List.mem_append_right _ h)
  have hf_9 := hts (.fieldLink RX0 9 "ArmatureWinding" "open" "[Z") (by decide +kernel)
  have hf_13 := hts (.fieldLink RX0 13 "ArmatureWinding" "brushOnBar" "[I") (by decide +kernel)
  subst hsz
  have hD := hD0.self (sz := s.heap.size)
  have hA : ∀ q : Nat, s.heap.size ≤ q → va_A [aw_new h0] s.heap.size q := fun q h => Or.inr h
  have hS : va_S (va_A [aw_new h0] s.heap.size) s.heap s.heap [] := va_S.rf
  have hl := lv_entry ([.ref h0]) (n := 1) (Nat.le_of_ble_eq_true rfl)
  rw [lg_entry_eq]
  generalize (lg_sl ([.ref h0]) ++ List.replicate (1 - (lg_sl ([.ref h0])).length) Slot.unset).toArray = ls at hl ⊢
  have hl : lv_has ls 1 [(0, .ref h0)] := hl
  refine lv_aload_n hx hb dX0_init_0 rfl (lv_at hl 0 rfl) ?_
  refine W.objInit hx hb hown (hts (.methodLink RX0 3 objectInit) (by decide +kernel)) (hts (.instanceMethod objectInit) (by decide +kernel)) (hts _ (List.mem_cons_of_mem _ (List.mem_append_left _ (List.mem_append_left _ (List.mem_of_getElem? (i := 2) rfl))))) rfl (by rw [hml]; exact hl.1) rfl dX0_init_1 (Nat.le_of_ble_eq_true rfl) (Nat.le_of_ble_eq_true rfl) ?_
  refine W.eq (g2 := F0 m 4 ls []) rfl ?_
  refine lv_aload_n hx hb dX0_init_4 rfl (lv_at hl 0 rfl) ?_
  refine zb_bipush hx hb dX0_init_5 (by decide) ?_
  refine va_newa (atype := .boolean) (ty := .boolean) (n := zI 72) (N' := 72) (a0 := (72, .inl (fun _ => 0))) hx hb (hts (.arrayClass .boolean) (by decide +kernel)) rfl hK hP hD hS hA (fun _ => rfl) (by decide) (by decide) (by decide) (Nat.le_of_ble_eq_true rfl) (Nat.le_of_ble_eq_true rfl) dX0_init_7 (fun oa yZ H hK hP hD hS => ?_)
  refine W.widen (k := 1) (n := 72) (by omega) (by omega) ?_
  have hK : va_K D vwCl [(yZ, .boolean)] s := hK
  have hP : va_P D vwCl [aw_new h0, (oa, .inl (yZ, 72, .inl (fun _ => 0)))] H := hP
  have hD : va_D _ [aw_new h0, (oa, .inl (yZ, 72, .inl (fun _ => 0)))] := hD
  refine va_putF (D := D) (ci := 0) (v := .ref oa) (ty := .array .boolean) (C := RX0) (T := TX0) (N := 11) hx hb hts hin tyX0 tyX0_ok nmX0 hown hK hP hD hS 0 rfl rfl 9 (by decide) hf_9 (fun _ h9 => h9) rfl hin2 rfl (by decide +kernel) rfl rfl (Nat.le_of_ble_eq_true rfl) dX0_init_9 (fun H locs hP hD hS => ?_)
  have hP : va_P D vwCl [(h0, .inr (0, [.int 0, .int 0, .int 0, .int 0, .int 0, .int 0, .int 0, .int 0, .int 0, .ref oa, .null])), (oa, .inl (yZ, 72, .inl (fun _ => 0)))] H := hP
  have hD : va_D _ [(h0, .inr (0, [.int 0, .int 0, .int 0, .int 0, .int 0, .int 0, .int 0, .int 0, .int 0, .ref oa, .null])), (oa, .inl (yZ, 72, .inl (fun _ => 0)))] := hD
  refine lv_aload_n hx hb dX0_init_12 rfl (lv_at hl 0 rfl) ?_
  refine zb_bipush hx hb dX0_init_13 (by decide) ?_
  refine va_newa (atype := .int) (ty := .int) (n := zI 72) (N' := 72) (a0 := (72, .inl (fun _ => 0))) hx hb (hts (.arrayClass .int) (by decide +kernel)) rfl hK hP hD hS hA (fun _ => rfl) (by decide) (by decide) (by decide) (Nat.le_of_ble_eq_true rfl) (Nat.le_of_ble_eq_true rfl) dX0_init_15 (fun ba yI H hK hP hD hS => ?_)
  refine W.widen (k := 2) (n := 144) (by omega) (by omega) ?_
  have hK : va_K D vwCl (aw_T yZ yI) s := hK
  have hP : va_P D vwCl [(h0, .inr (0, [.int 0, .int 0, .int 0, .int 0, .int 0, .int 0, .int 0, .int 0, .int 0, .ref oa, .null])), (oa, .inl (yZ, 72, .inl (fun _ => 0))), (ba, .inl (yI, 72, .inl (fun _ => 0)))] H := hP
  have hD : va_D _ [(h0, .inr (0, [.int 0, .int 0, .int 0, .int 0, .int 0, .int 0, .int 0, .int 0, .int 0, .ref oa, .null])), (oa, .inl (yZ, 72, .inl (fun _ => 0))), (ba, .inl (yI, 72, .inl (fun _ => 0)))] := hD
  refine va_putF (D := D) (ci := 0) (v := .ref ba) (ty := .array .int) (C := RX0) (T := TX0) (N := 11) hx hb hts hin tyX0 tyX0_ok nmX0 hown hK hP hD hS 0 rfl rfl 10 (by decide) hf_13 (fun _ h9 => h9) rfl hin2 rfl (by decide +kernel) rfl rfl (Nat.le_of_ble_eq_true rfl) dX0_init_17 (fun H locs hP hD hS => ?_)
  have hP : va_P D vwCl [(h0, .inr (0, [.int 0, .int 0, .int 0, .int 0, .int 0, .int 0, .int 0, .int 0, .int 0, .ref oa, .ref ba])), (oa, .inl (yZ, 72, .inl (fun _ => 0))), (ba, .inl (yI, 72, .inl (fun _ => 0)))] H := hP
  have hD : va_D _ [(h0, .inr (0, [.int 0, .int 0, .int 0, .int 0, .int 0, .int 0, .int 0, .int 0, .int 0, .ref oa, .ref ba])), (oa, .inl (yZ, 72, .inl (fun _ => 0))), (ba, .inl (yI, 72, .inl (fun _ => 0)))] := hD
  rw [← aw_f0, ← zI_0] at hP hD
  refine lv_aload_n hx hb dX0_init_20 rfl (lv_at hl 0 rfl) ?_
  refine zb_iconst hx hb dX0_init_21 ?_
  refine zb_bipush hx hb dX0_init_22 (by decide) ?_
  refine zb_iconst hx hb dX0_init_24 ?_
  refine aw_callMV (As := [.int (zI 4), .int (zI 12), .int (zI 1)]) (rest := []) (wc := aw_W3 yZ yI h0 oa ba 0 0 0 0 (zI 0) (zI 0) (zI 0) 0 0 (fun _ => false) (fun _ => zI 0)) (wr := []) (ws2 := fun u => aw_W3 yZ yI h0 oa ba 4 12 1 (12 * 1) (zI 0) (zI 1) (zI 1) 1 0 u.1 u.2) ⟨hx, hb, hml, hown, hts⟩ (k_layArmature (a := 4) (b := 12) (k := 1) ⟨by omega, by omega⟩ ⟨by omega, by omega⟩) (cwV 3 hts gX0_init_X0_layArmature rfl rfl rfl (by decide +kernel) ⟨Nat.le_of_ble_eq_true rfl, Nat.le_of_ble_eq_true rfl⟩) hP hD hK hS hA rfl rfl [0, 1, 2] [] rfl rfl (by decide) (by decide) (by decide) [0, 1, 2] (by decide) (fun _ => rfl) rfl hl.1 rfl (Nat.le_of_ble_eq_true rfl) dX0_init_25 ⟨Nat.le_of_ble_eq_true rfl, Nat.le_of_ble_eq_true rfl⟩ (fun u H locs hu hP hD hS => ?_)
  refine W.eq (g2 := F0 m 28 ls []) rfl ?_
  exact W.vret hx hb hr (fun t ht hW => ⟨⟨u, rfl, hu, yZ, yI, oa, ba, by rw [ht]; exact hP, va_K.moved hW.alike hK, hD⟩, hS.F ht⟩) hS.2.2 dX0_init_28
/-- what the law reads for number k of the script -/
def aw_ce (L : Nat) (xs : Nat → Int32) (k : Int) : Int := ((if k < (L : Int) then xs k.toNat else zI (7919 * k + 13)) &&& zI 2147483647).toInt
theorem aw_ce_in (L : Nat) (xs : Nat → Int32) (k : Int) : 0 ≤ aw_ce L xs k ∧ aw_ce L xs k < 2147483648 := by
  unfold aw_ce
  have h : ∀ x : Int32, 0 ≤ (x &&& zI 2147483647).toInt ∧ (x &&& zI 2147483647).toInt < 2147483648 := by
    intro x
    rw [show zI 2147483647 = 2147483647 from by decide, pk_and x (m := 2147483647) 31 (by decide), nI_toInt (by omega)]
    omega
  exact h _
theorem zI_back (x : Int32) : zI x.toInt = x := Int32.ofInt_toInt x
section
variable {l : Launch} {D : va_G}
set_option maxHeartbeats 4000000 in
set_option maxRecDepth 100000 in
/-- the law's cell -/
theorem k_cell {b L : Nat} {xs : Nat → Int32} (hL : L ≤ 1000) {k : Int} (hk : 0 ≤ k ∧ k ≤ 1000) : Met l yL_cell wsL_cell (aw_rm 0 0) (va_Pc [.ref b, .int (zI k)] (fun U => va_X b L xs U U.heap)) (aw_Q (aw_ce L xs k)) 0 0 (fun _ => False) := by
  refine Met.ofW (cc := cL_cell) (maxL := 2) (ret := (some .int)) (by decide) rfl ?_
  intro p e s m args below meth c s₁ B hml hv
  obtain ⟨rfl, hX⟩ := hv
  have hx := B.exec
  have hb := B.bytes
  have hr := B.returns
  have hts := atoms_spec (ws := wsL_cell) B.pre
  have hown : s.vm.findClass RL = some m.cls := findClass_of_methodNamed B.named
  have hlocks := B.notSynchronized
  have hl := lv_entry ([.ref b, .int (zI k)]) (n := 2) (Nat.le_of_ble_eq_true rfl)
  rw [lg_entry_eq]
  generalize (lg_sl ([.ref b, .int (zI k)]) ++ List.replicate (2 - (lg_sl ([.ref b, .int (zI k)])).length) Slot.unset).toArray = ls at hl ⊢
  have hl : lv_has ls 2 [(0, .ref b), (1, .int (zI k))] := hl
  have hbl : b < s.heap.size := by
    obtain ⟨scr, h1, _⟩ := hX
    exact (Array.getElem?_eq_some_iff.mp h1).1
  have hS : va_S (fun _ => False) s.heap s.heap [] := va_S.rf
  refine lv_iload_n hx hb dL_cell_0 rfl (lv_at hl 1 rfl) ?_
  refine lv_aload_n hx hb dL_cell_1 rfl (lv_at hl 0 rfl) ?_
  refine va_slen hx hb hX hbl (fun h => h) hS dL_cell_2 ?_
  rw [show Int32.ofNat L = zI L from zI_nI (n := L) (by omega)]
  refine zb_cge (tgt := 12) hx hb dL_cell_3 (by decide) (by omega) (by omega) (fun c3 => ?_) (fun c3 => ?_)
  · skip
    have e1 : (if k < (L : Int) then xs k.toNat else zI (7919 * k + 13)) = zI (7919 * k + 13) := if_neg (by omega)
    refine zb_sipush hx hb dL_cell_12 (by decide) ?_
    refine lv_iload_n hx hb dL_cell_15 rfl (lv_at hl 1 rfl) ?_
    refine zb_mul hx hb dL_cell_16 ?_
    refine zb_bipush hx hb dL_cell_17 (by decide) ?_
    refine zb_add hx hb dL_cell_19 ?_
    refine lv_ldc (v := 2147483647) hx hb hown (hts (.constant RL 7 (2147483647)) (by decide +kernel)) dL_cell_20 ?_
    refine lv_iand hx hb dL_cell_22 ?_
    refine zb_to (w := .int (zI (aw_ce L xs k))) (congrArg Value.int (by unfold aw_ce; rw [zI_back, e1]; rfl)) ?_
    exact aw_iret hx hb hr hlocks dL_cell_23 rfl
  · skip
    have e1 : (if k < (L : Int) then xs k.toNat else zI (7919 * k + 13)) = xs k.toNat := if_pos (by omega)
    refine lv_aload_n hx hb dL_cell_6 rfl (lv_at hl 0 rfl) ?_
    refine lv_iload_n hx hb dL_cell_7 rfl (lv_at hl 1 rfl) ?_
    refine va_sld hx hb hX hbl (fun h => h) hS (zI_in (by omega) (by omega) (by omega)) dL_cell_8 ?_
    rw [zI_clamp (by omega)]
    refine lv_goto (tgt := 20) hx hb dL_cell_9 (by decide) ?_
    refine lv_ldc (v := 2147483647) hx hb hown (hts (.constant RL 7 (2147483647)) (by decide +kernel)) dL_cell_20 ?_
    refine lv_iand hx hb dL_cell_22 ?_
    refine zb_to (w := .int (zI (aw_ce L xs k))) (congrArg Value.int (by unfold aw_ce; rw [zI_back, e1]; rfl)) ?_
    exact aw_iret hx hb hr hlocks dL_cell_23 rfl
end
