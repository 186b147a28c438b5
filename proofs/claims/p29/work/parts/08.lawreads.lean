section
variable {l : Launch} {D : va_G} {yZ yI : ClassId} {o oa ba da pa : Nat} {P S K N w ch : Int} {ty px pr : Int32} {ob : Int → Bool} {g pf : Nat → Int32} {dv : Nat → Int}
set_option maxHeartbeats 4000000 in
set_option maxRecDepth 100000 in
/-- the law's mod -/
theorem k_mod {x n : Int} (hx1 : -1000000 ≤ x ∧ x ≤ 1000000) (hn : 0 < n ∧ n ≤ 1000000) : aw_RO l yL_mod wsL_mod (aw_rm 0 0) D [] [] [.int (zI x), .int (zI n)] (x % n) := by
  refine Met.ofW (cc := cL_mod) (maxL := 2) (ret := (some .int)) (by decide) rfl ?_
  intro p e s m args below meth c s₁ B hml hv
  obtain ⟨rfl, hP, hK⟩ := hv
  have hx := B.exec
  have hb := B.bytes
  have hr := B.returns
  have hts := atoms_spec (ws := wsL_mod) B.pre
  have hown : s.vm.findClass RL = some m.cls := findClass_of_methodNamed B.named
  have hlocks := B.notSynchronized
  have hl := lv_entry ([.int (zI x), .int (zI n)]) (n := 2) (Nat.le_of_ble_eq_true rfl)
  rw [lg_entry_eq]
  generalize (lg_sl ([.int (zI x), .int (zI n)]) ++ List.replicate (2 - (lg_sl ([.int (zI x), .int (zI n)])).length) Slot.unset).toArray = ls at hl ⊢
  have hl : lv_has ls 2 [(0, .int (zI x)), (1, .int (zI n))] := hl
  have hm := aw_mod (x := x) hn.1
  have ht := aw_tmod (x := x) hn.1
  refine lv_iload_n hx hb dL_mod_0 rfl (lv_at hl 0 rfl) ?_
  refine lv_iload_n hx hb dL_mod_1 rfl (lv_at hl 1 rfl) ?_
  refine zb_trem hx hb dL_mod_2 (by omega) (by omega) ?_
  refine lv_iload_n hx hb dL_mod_3 rfl (lv_at hl 1 rfl) ?_
  refine zb_add hx hb dL_mod_4 ?_
  refine lv_iload_n hx hb dL_mod_5 rfl (lv_at hl 1 rfl) ?_
  refine zb_trem hx hb dL_mod_6 (by omega) (by omega) ?_
  exact aw_iret hx hb hr hlocks dL_mod_7 (aw_tmod2 hn.1)
set_option maxHeartbeats 4000000 in
set_option maxRecDepth 100000 in
/-- the law's slotPitch -/
theorem k_lslotPitch (hI : aw_In (dv 0) (dv 1) (dv 2) (dv 3) (dv 7) (dv 8)) : aw_RO l yL_slotPitch wsL_slotPitch (aw_rm 0 0) D (aw_T yZ yI) [aw_Dr yI da dv] [.ref da] (aw_sp (dv 0) (dv 1) (dv 8)) := by
  refine Met.ofW (cc := cL_slotPitch) (maxL := 2) (ret := (some .int)) (by decide) rfl ?_
  intro p e s m args below meth c s₁ B hml hv
  obtain ⟨rfl, hP, hK⟩ := hv
  have hx := B.exec
  have hb := B.bytes
  have hr := B.returns
  have hts := atoms_spec (ws := wsL_slotPitch) B.pre
  have hown : s.vm.findClass RL = some m.cls := findClass_of_methodNamed B.named
  have hlocks := B.notSynchronized
  have hl := lv_entry ([.ref da]) (n := 2) (Nat.le_of_ble_eq_true rfl)
  rw [lg_entry_eq]
  generalize (lg_sl ([.ref da]) ++ List.replicate (2 - (lg_sl ([.ref da])).length) Slot.unset).toArray = ls at hl ⊢
  have hl : lv_has ls 2 [(0, .ref da)] := hl
  obtain ⟨i1, i2, i3, i4, i5, i6, i7, i8, i9, i10, i11, i12, i13⟩ := id hI
  have hd := aw_div (x := dv 1) (n := dv 0) (by omega) (by omega)
  refine lv_aload_n hx hb dL_slotPitch_0 rfl (lv_at hl 0 rfl) ?_
  refine zb_iconst hx hb dL_slotPitch_1 ?_
  refine aw_dld hx hb hK hP 0 1 rfl rfl 1 (by decide) dL_slotPitch_2 ?_
  refine lv_aload_n hx hb dL_slotPitch_3 rfl (lv_at hl 0 rfl) ?_
  refine zb_iconst hx hb dL_slotPitch_4 ?_
  refine aw_dld hx hb hK hP 0 1 rfl rfl 0 (by decide) dL_slotPitch_5 ?_
  refine zb_div hx hb dL_slotPitch_6 (by omega) (by omega) ?_
  refine lv_aload_n hx hb dL_slotPitch_7 rfl (lv_at hl 0 rfl) ?_
  refine zb_bipush hx hb dL_slotPitch_8 (by decide) ?_
  refine aw_dld hx hb hK hP 0 1 rfl rfl 8 (by decide) dL_slotPitch_10 ?_
  refine zb_sub hx hb dL_slotPitch_11 ?_
  refine lv_istore_n (lv' := [(1, .int (zI (((dv 1) / (dv 0)) - (dv 8)))), (0, .ref da)]) hx hb dL_slotPitch_12 rfl hl (by decide) rfl (fun ls hl => ?_)
  refine lv_iload_n hx hb dL_slotPitch_13 rfl (lv_at hl 0 rfl) ?_
  refine zb_iconst hx hb dL_slotPitch_14 ?_
  refine zb_cge (tgt := 22) hx hb dL_slotPitch_15 (by decide) (by omega) (by omega) (fun c15 => ?_) (fun c15 => ?_)
  · skip
    refine lv_iload_n hx hb dL_slotPitch_22 rfl (lv_at hl 0 rfl) ?_
    exact aw_iret hx hb hr hlocks dL_slotPitch_23 (by unfold aw_sp; rw [if_neg (by omega)])
  · skip
    refine zb_iconst hx hb dL_slotPitch_18 ?_
    refine lv_goto (tgt := 23) hx hb dL_slotPitch_19 (by decide) ?_
    exact aw_iret hx hb hr hlocks dL_slotPitch_23 (by unfold aw_sp; rw [if_pos (by omega)])
set_option maxHeartbeats 4000000 in
set_option maxRecDepth 100000 in
/-- the law's lower -/
theorem k_llower (hI : aw_In (dv 0) (dv 1) (dv 2) (dv 3) (dv 7) (dv 8)) {z : Int} (hz : 0 ≤ z ∧ z < dv 3) : aw_RO l yL_lower wsL_lower (aw_rm 1 21) D (aw_T yZ yI) [aw_Dr yI da dv] [.ref da, .int (zI z)] (aw_lo (dv 0) (dv 1) (dv 2) (dv 8) z) := by
  refine Met.ofW (cc := cL_lower) (maxL := 2) (ret := (some .int)) (by decide) rfl ?_
  intro p e s m args below meth c s₁ B hml hv
  obtain ⟨rfl, hP, hK⟩ := hv
  have hx := B.exec
  have hb := B.bytes
  have hr := B.returns
  have hts := atoms_spec (ws := wsL_lower) B.pre
  have hown : s.vm.findClass RL = some m.cls := findClass_of_methodNamed B.named
  have hlocks := B.notSynchronized
  have hl := lv_entry ([.ref da, .int (zI z)]) (n := 2) (Nat.le_of_ble_eq_true rfl)
  rw [lg_entry_eq]
  generalize (lg_sl ([.ref da, .int (zI z)]) ++ List.replicate (2 - (lg_sl ([.ref da, .int (zI z)])).length) Slot.unset).toArray = ls at hl ⊢
  have hl : lv_has ls 2 [(0, .ref da), (1, .int (zI z))] := hl
  obtain ⟨i1, i2, i3, i4, i5, i6, i7, i8, i9, i10, i11, i12, i13⟩ := id hI
  have hq := aw_div (x := z) (n := dv 2) (by omega) (by omega)
  have hs := aw_sp_in (P := dv 0) (S := dv 1) (ch := dv 8) (by omega) (by omega) (by omega)
  refine lv_iload_n hx hb dL_lower_0 rfl (lv_at hl 1 rfl) ?_
  refine lv_aload_n hx hb dL_lower_1 rfl (lv_at hl 0 rfl) ?_
  refine zb_iconst hx hb dL_lower_2 ?_
  refine aw_dld hx hb hK hP 0 1 rfl rfl 2 (by decide) dL_lower_3 ?_
  refine zb_div hx hb dL_lower_4 (by omega) (by omega) ?_
  refine lv_aload_n hx hb dL_lower_5 rfl (lv_at hl 0 rfl) ?_
  refine aw_callS (As := [.ref da]) (rest := [.int (zI (z / (dv 2)))]) ⟨hx, hb, hml, hown, hts⟩ (k_lslotPitch hI) (va_cwS 1 hts gL_lower_L_slotPitch rfl rfl rfl (by decide +kernel) ⟨Nat.le_of_ble_eq_true rfl, Nat.le_of_ble_eq_true rfl⟩) hP hK rfl hl.1 rfl (Nat.le_of_ble_eq_true rfl) dL_lower_6 ⟨Nat.zero_le _, Nat.zero_le _⟩ ?_
  refine zb_add hx hb dL_lower_9 ?_
  refine lv_aload_n hx hb dL_lower_10 rfl (lv_at hl 0 rfl) ?_
  refine zb_iconst hx hb dL_lower_11 ?_
  refine aw_dld hx hb hK hP 0 1 rfl rfl 1 (by decide) dL_lower_12 ?_
  refine zb_rem hx hb dL_lower_13 (by omega) (by omega) ?_
  exact aw_iret hx hb hr hlocks dL_lower_14 rfl
set_option maxHeartbeats 4000000 in
set_option maxRecDepth 100000 in
/-- the law's side -/
theorem k_lside (hI : aw_In (dv 0) (dv 1) (dv 2) (dv 3) (dv 7) (dv 8)) {a t : Int} (ha : 0 ≤ a ∧ a ≤ 100) (ht : 0 ≤ t ∧ t ≤ 200) : aw_RO l yL_side wsL_side (aw_rm 0 0) D (aw_T yZ yI) [aw_Dr yI da dv] [.ref da, .int (zI a), .int (zI t)] (aw_sd (dv 0) (dv 1) a t) := by
  refine Met.ofW (cc := cL_side) (maxL := 4) (ret := (some .int)) (by decide) rfl ?_
  intro p e s m args below meth c s₁ B hml hv
  obtain ⟨rfl, hP, hK⟩ := hv
  have hx := B.exec
  have hb := B.bytes
  have hr := B.returns
  have hts := atoms_spec (ws := wsL_side) B.pre
  have hown : s.vm.findClass RL = some m.cls := findClass_of_methodNamed B.named
  have hlocks := B.notSynchronized
  have hl := lv_entry ([.ref da, .int (zI a), .int (zI t)]) (n := 4) (Nat.le_of_ble_eq_true rfl)
  rw [lg_entry_eq]
  generalize (lg_sl ([.ref da, .int (zI a), .int (zI t)]) ++ List.replicate (4 - (lg_sl ([.ref da, .int (zI a), .int (zI t)])).length) Slot.unset).toArray = ls at hl ⊢
  have hl : lv_has ls 4 [(0, .ref da), (1, .int (zI a)), (2, .int (zI t))] := hl
  obtain ⟨i1, i2, i3, i4, i5, i6, i7, i8, i9, i10, i11, i12, i13⟩ := id hI
  have hm := aw_mod (x := a + t) (n := dv 1) (by omega)
  have hj := aw_mul (x := (a + t) % dv 1) (y := dv 0) (a := 24) (b := 8) (by omega) (by omega) (by omega) (by omega)
  have hj0 : 0 ≤ (a + t) % dv 1 * dv 0 := Int.mul_nonneg (by omega) (by omega)
  have hd := aw_div (x := (a + t) % dv 1 * dv 0) (n := dv 1) (by omega) (by omega)
  refine lv_iload_n hx hb dL_side_0 rfl (lv_at hl 1 rfl) ?_
  refine lv_iload_n hx hb dL_side_1 rfl (lv_at hl 2 rfl) ?_
  refine zb_add hx hb dL_side_2 ?_
  refine lv_aload_n hx hb dL_side_3 rfl (lv_at hl 0 rfl) ?_
  refine zb_iconst hx hb dL_side_4 ?_
  refine aw_dld hx hb hK hP 0 1 rfl rfl 1 (by decide) dL_side_5 ?_
  refine zb_rem hx hb dL_side_6 (by omega) (by omega) ?_
  refine lv_aload_n hx hb dL_side_7 rfl (lv_at hl 0 rfl) ?_
  refine zb_iconst hx hb dL_side_8 ?_
  refine aw_dld hx hb hK hP 0 1 rfl rfl 0 (by decide) dL_side_9 ?_
  refine zb_mul hx hb dL_side_10 ?_
  refine lv_aload_n hx hb dL_side_11 rfl (lv_at hl 0 rfl) ?_
  refine zb_iconst hx hb dL_side_12 ?_
  refine aw_dld hx hb hK hP 0 1 rfl rfl 1 (by decide) dL_side_13 ?_
  refine zb_div hx hb dL_side_14 (by omega) (by omega) ?_
  refine lv_istore_n (lv' := [(3, .int (zI ((((a + t) % (dv 1)) * (dv 0)) / (dv 1)))), (0, .ref da), (1, .int (zI a)), (2, .int (zI t))]) hx hb dL_side_15 rfl hl (by decide) rfl (fun ls hl => ?_)
  refine lv_iload_n hx hb dL_side_16 rfl (lv_at hl 0 rfl) ?_
  refine zb_iconst hx hb dL_side_17 ?_
  refine zb_rem hx hb dL_side_18 (by omega) (by omega) ?_
  refine zb_ine (tgt := 26) hx hb dL_side_19 (by decide) (by omega) (fun c19 => ?_) (fun c19 => ?_)
  · skip
    refine zb_iconst hx hb dL_side_26 ?_
    exact aw_iret hx hb hr hlocks dL_side_27 (by unfold aw_sd; rw [if_neg (by omega)])
  · skip
    refine zb_iconst hx hb dL_side_22 ?_
    refine lv_goto (tgt := 27) hx hb dL_side_23 (by decide) ?_
    exact aw_iret hx hb hr hlocks dL_side_27 (by unfold aw_sd; rw [if_pos (by omega)])
set_option maxHeartbeats 4000000 in
set_option maxRecDepth 100000 in
/-- the law's voltage -/
theorem k_lvoltage (hI : aw_In (dv 0) (dv 1) (dv 2) (dv 3) (dv 7) (dv 8)) {z t : Int} (hz : 0 ≤ z ∧ z < dv 3) (ht : 0 ≤ t ∧ t ≤ 200) : aw_RO l yL_voltage wsL_voltage (aw_rm 2 42) D (aw_T yZ yI) [aw_Dr yI da dv] [.ref da, .int (zI z), .int (zI t)] (aw_vt (dv 0) (dv 1) (dv 2) (dv 8) z t) := by
  refine Met.ofW (cc := cL_voltage) (maxL := 3) (ret := (some .int)) (by decide) rfl ?_
  intro p e s m args below meth c s₁ B hml hv
  obtain ⟨rfl, hP, hK⟩ := hv
  have hx := B.exec
  have hb := B.bytes
  have hr := B.returns
  have hts := atoms_spec (ws := wsL_voltage) B.pre
  have hown : s.vm.findClass RL = some m.cls := findClass_of_methodNamed B.named
  have hlocks := B.notSynchronized
  have hl := lv_entry ([.ref da, .int (zI z), .int (zI t)]) (n := 3) (Nat.le_of_ble_eq_true rfl)
  rw [lg_entry_eq]
  generalize (lg_sl ([.ref da, .int (zI z), .int (zI t)]) ++ List.replicate (3 - (lg_sl ([.ref da, .int (zI z), .int (zI t)])).length) Slot.unset).toArray = ls at hl ⊢
  have hl : lv_has ls 3 [(0, .ref da), (1, .int (zI z)), (2, .int (zI t))] := hl
  obtain ⟨i1, i2, i3, i4, i5, i6, i7, i8, i9, i10, i11, i12, i13⟩ := id hI
  have hq := aw_div (x := z) (n := dv 2) (by omega) (by omega)
  have hqs := aw_divlt (z := z) i7 (by omega) (by omega)
  have hlo : 0 ≤ aw_lo (dv 0) (dv 1) (dv 2) (dv 8) z ∧ aw_lo (dv 0) (dv 1) (dv 2) (dv 8) z < dv 1 := aw_mod (by omega)
  refine lv_aload_n hx hb dL_voltage_0 rfl (lv_at hl 0 rfl) ?_
  refine lv_iload_n hx hb dL_voltage_1 rfl (lv_at hl 1 rfl) ?_
  refine lv_aload_n hx hb dL_voltage_2 rfl (lv_at hl 0 rfl) ?_
  refine zb_iconst hx hb dL_voltage_3 ?_
  refine aw_dld hx hb hK hP 0 1 rfl rfl 2 (by decide) dL_voltage_4 ?_
  refine zb_div hx hb dL_voltage_5 (by omega) (by omega) ?_
  refine lv_iload_n hx hb dL_voltage_6 rfl (lv_at hl 2 rfl) ?_
  refine aw_callS (As := [.ref da, .int (zI (z / (dv 2))), .int (zI t)]) (rest := []) ⟨hx, hb, hml, hown, hts⟩ (k_lside (a := z / dv 2) (t := t) hI ⟨by omega, by omega⟩ ht) (va_cwS 3 hts gL_voltage_L_side rfl rfl rfl (by decide +kernel) ⟨Nat.le_of_ble_eq_true rfl, Nat.le_of_ble_eq_true rfl⟩) hP hK rfl hl.1 rfl (Nat.le_of_ble_eq_true rfl) dL_voltage_7 ⟨Nat.zero_le _, Nat.zero_le _⟩ ?_
  refine lv_aload_n hx hb dL_voltage_10 rfl (lv_at hl 0 rfl) ?_
  refine lv_aload_n hx hb dL_voltage_11 rfl (lv_at hl 0 rfl) ?_
  refine lv_iload_n hx hb dL_voltage_12 rfl (lv_at hl 1 rfl) ?_
  refine aw_callS (As := [.ref da, .int (zI z)]) (rest := [.ref da, .int (zI (aw_sd (dv 0) (dv 1) (z / dv 2) t))]) ⟨hx, hb, hml, hown, hts⟩ (k_llower hI hz) (va_cwS 2 hts gL_voltage_L_lower rfl rfl rfl (by decide +kernel) ⟨Nat.le_of_ble_eq_true rfl, Nat.le_of_ble_eq_true rfl⟩) hP hK rfl hl.1 rfl (Nat.le_of_ble_eq_true rfl) dL_voltage_13 ⟨Nat.zero_le _, Nat.zero_le _⟩ ?_
  refine lv_iload_n hx hb dL_voltage_16 rfl (lv_at hl 2 rfl) ?_
  refine aw_callS (As := [.ref da, .int (zI (aw_lo (dv 0) (dv 1) (dv 2) (dv 8) z)), .int (zI t)]) (rest := [.int (zI (aw_sd (dv 0) (dv 1) (z / dv 2) t))]) ⟨hx, hb, hml, hown, hts⟩ (k_lside (a := aw_lo (dv 0) (dv 1) (dv 2) (dv 8) z) (t := t) hI ⟨by omega, by omega⟩ ht) (va_cwS 3 hts gL_voltage_L_side rfl rfl rfl (by decide +kernel) ⟨Nat.le_of_ble_eq_true rfl, Nat.le_of_ble_eq_true rfl⟩) hP hK rfl hl.1 rfl (Nat.le_of_ble_eq_true rfl) dL_voltage_17 ⟨Nat.zero_le _, Nat.zero_le _⟩ ?_
  refine zb_sub hx hb dL_voltage_20 ?_
  exact aw_iret hx hb hr hlocks dL_voltage_21 rfl
set_option maxHeartbeats 4000000 in
set_option maxRecDepth 100000 in
/-- the law's isOpen -/
theorem k_lisOpen (hO : aw_OB pf ob) {z : Int} (hz : 0 ≤ z ∧ z < 72) : aw_RO l yL_isOpen wsL_isOpen (aw_rm 0 0) D (aw_T yZ yI) [aw_Mr yI pa pf] [.ref pa, .int (zI z)] (aw_b (ob z)) := by
  refine Met.ofW (cc := cL_isOpen) (maxL := 2) (ret := (some .boolean)) (by decide) rfl ?_
  intro p e s m args below meth c s₁ B hml hv
  obtain ⟨rfl, hP, hK⟩ := hv
  have hx := B.exec
  have hb := B.bytes
  have hr := B.returns
  have hts := atoms_spec (ws := wsL_isOpen) B.pre
  have hown : s.vm.findClass RL = some m.cls := findClass_of_methodNamed B.named
  have hlocks := B.notSynchronized
  have hl := lv_entry ([.ref pa, .int (zI z)]) (n := 2) (Nat.le_of_ble_eq_true rfl)
  rw [lg_entry_eq]
  generalize (lg_sl ([.ref pa, .int (zI z)]) ++ List.replicate (2 - (lg_sl ([.ref pa, .int (zI z)])).length) Slot.unset).toArray = ls at hl ⊢
  have hl : lv_has ls 2 [(0, .ref pa), (1, .int (zI z))] := hl
  have hb1 := aw_b_01 (ob z)
  have hq : 0 ≤ z / 24 ∧ z / 24 < 3 := by omega
  refine lv_aload_n hx hb dL_isOpen_0 rfl (lv_at hl 0 rfl) ?_
  refine lv_iload_n hx hb dL_isOpen_1 rfl (lv_at hl 1 rfl) ?_
  refine zb_bipush hx hb dL_isOpen_2 (by decide) ?_
  refine zb_div hx hb dL_isOpen_4 (by omega) (by omega) ?_
  refine va_iald hx hb hK hP 0 1 rfl rfl (zI_in (by omega) (by omega) (by omega)) dL_isOpen_5 ?_
  refine lv_iload_n hx hb dL_isOpen_6 rfl (lv_at hl 1 rfl) ?_
  refine zb_bipush hx hb dL_isOpen_7 (by decide) ?_
  refine zb_rem hx hb dL_isOpen_9 (by omega) (by omega) ?_
  refine lv_ishr hx hb dL_isOpen_10 ?_
  refine zb_iconst hx hb dL_isOpen_11 ?_
  refine lv_iand hx hb dL_isOpen_12 ?_
  refine zb_to (w := .int (zI (aw_b (ob z)))) (congrArg Value.int (hO z hz.1 hz.2)) ?_
  refine zb_iconst hx hb dL_isOpen_13 ?_
  refine zb_cne (tgt := 21) hx hb dL_isOpen_14 (by decide) (by omega) (by omega) (fun c14 => ?_) (fun c14 => ?_)
  · skip
    refine zb_iconst hx hb dL_isOpen_21 ?_
    exact aw_zret hx hb hr hlocks dL_isOpen_22 (by omega) (by omega)
  · skip
    refine zb_iconst hx hb dL_isOpen_17 ?_
    refine lv_goto (tgt := 22) hx hb dL_isOpen_18 (by decide) ?_
    exact aw_zret hx hb hr hlocks dL_isOpen_22 (by omega) (by omega)
set_option maxHeartbeats 4000000 in
set_option maxRecDepth 100000 in
/-- the law's gcd -/
theorem k_gcd {a b : Int} (ha : 0 ≤ a ∧ a ≤ 1000) (hb0 : 1 ≤ b ∧ b ≤ 1000) : aw_RO l yL_gcd wsL_gcd (aw_rm 0 0) D [] [] [.int (zI a), .int (zI b)] (((Nat.gcd a.toNat b.toNat : Nat) : Int)) := by
  refine Met.ofW (cc := cL_gcd) (maxL := 4) (ret := (some .int)) (by decide) rfl ?_
  intro p e s m args below meth c s₁ B hml hv
  obtain ⟨rfl, hP, hK⟩ := hv
  have hx := B.exec
  have hb := B.bytes
  have hr := B.returns
  have hts := atoms_spec (ws := wsL_gcd) B.pre
  have hown : s.vm.findClass RL = some m.cls := findClass_of_methodNamed B.named
  have hlocks := B.notSynchronized
  have hl := lv_entry ([.int (zI a), .int (zI b)]) (n := 4) (Nat.le_of_ble_eq_true rfl)
  rw [lg_entry_eq]
  generalize (lg_sl ([.int (zI a), .int (zI b)]) ++ List.replicate (4 - (lg_sl ([.int (zI a), .int (zI b)])).length) Slot.unset).toArray = ls at hl ⊢
  have hl : lv_has ls 4 [(0, .int (zI a)), (1, .int (zI b))] := hl
  refine zb_iconst hx hb dL_gcd_0 ?_
  refine lv_istore_n (lv' := [(2, .int (zI 1)), (0, .int (zI a)), (1, .int (zI b))]) hx hb dL_gcd_1 rfl hl (by decide) rfl (fun ls hl => ?_)
  refine zb_iconst hx hb dL_gcd_2 ?_
  refine lv_istore_n (lv' := [(3, .int (zI 2)), (2, .int (zI 1)), (0, .int (zI a)), (1, .int (zI b))]) hx hb dL_gcd_3 rfl hl (by decide) rfl (fun ls hl => ?_)
  refine zb_lp2 (nL := 4) (fun r k => 2 ≤ k ∧ k ≤ b + 1 ∧ aw_gp a b k r) (fun r k => [(3, .int (zI k)), (2, .int (zI r)), (1, .int (zI b)), (0, .int (zI a))]) (fun r k => b + 1 - k) 1 2 ⟨by omega, by omega, aw_gp_0 a b⟩ (lv_sub hl [0, 1, 3, 2] rfl) ?_
  intro r k ls hJ4 hl ih4
  have hJ4 : 2 ≤ k ∧ k ≤ b + 1 ∧ aw_gp a b k r := hJ4
  have hl : lv_has ls 4 [(3, .int (zI k)), (2, .int (zI r)), (1, .int (zI b)), (0, .int (zI a))] := hl
  have h12 := aw_mod (x := a) (n := k) (by omega)
  have h18 := aw_mod (x := b) (n := k) (by omega)
  have hr9 : 1 ≤ r ∧ r < k := ⟨hJ4.2.2.1, hJ4.2.2.2.1⟩
  refine lv_iload_n hx hb dL_gcd_4 rfl (lv_at hl 0 rfl) ?_
  refine lv_iload_n hx hb dL_gcd_5 rfl (lv_at hl 2 rfl) ?_
  refine zb_cgt (tgt := 33) hx hb dL_gcd_6 (by decide) (by omega) (by omega) (fun c6 => ?_) (fun c6 => ?_)
  · skip
    refine lv_iload_n hx hb dL_gcd_33 rfl (lv_at hl 1 rfl) ?_
    exact aw_iret hx hb hr hlocks dL_gcd_34 (aw_gp_e ha.1 hb0.1 (show k = b + 1 by omega) hJ4.2.2)
  · skip
    refine lv_iload_n hx hb dL_gcd_9 rfl (lv_at hl 3 rfl) ?_
    refine lv_iload_n hx hb dL_gcd_10 rfl (lv_at hl 0 rfl) ?_
    refine zb_rem hx hb dL_gcd_11 (by omega) (by omega) ?_
    refine zb_ine (tgt := 25) hx hb dL_gcd_12 (by decide) (by omega) (fun c12 => ?_) (fun c12 => ?_)
    · skip
      refine lv_iload_n hx hb dL_gcd_25 rfl (lv_at hl 1 rfl) ?_
      refine lv_istore_n (lv' := [(2, .int (zI r)), (3, .int (zI k)), (1, .int (zI b)), (0, .int (zI a))]) hx hb dL_gcd_26 rfl hl (by decide) rfl (fun ls hl => ?_)
      refine zb_iinc (lv' := [(3, .int (zI (k + 1))), (2, .int (zI r)), (1, .int (zI b)), (0, .int (zI a))]) hx hb dL_gcd_27 hl (k := 1) rfl (by decide) rfl (fun ls hl => ?_)
      refine lv_goto (tgt := 4) hx hb dL_gcd_30 (by decide) ?_
      exact ih4 r (k + 1) ls ⟨by omega, by omega, aw_gp_f hJ4.2.2 (fun q _ => c12 q)⟩ (by omega) (lv_sub hl [0, 1, 2, 3] rfl)
    · skip
      refine lv_iload_n hx hb dL_gcd_15 rfl (lv_at hl 2 rfl) ?_
      refine lv_iload_n hx hb dL_gcd_16 rfl (lv_at hl 0 rfl) ?_
      refine zb_rem hx hb dL_gcd_17 (by omega) (by omega) ?_
      refine zb_ine (tgt := 25) hx hb dL_gcd_18 (by decide) (by omega) (fun c18 => ?_) (fun c18 => ?_)
      · skip
        refine lv_iload_n hx hb dL_gcd_25 rfl (lv_at hl 1 rfl) ?_
        refine lv_istore_n (lv' := [(2, .int (zI r)), (3, .int (zI k)), (1, .int (zI b)), (0, .int (zI a))]) hx hb dL_gcd_26 rfl hl (by decide) rfl (fun ls hl => ?_)
        refine zb_iinc (lv' := [(3, .int (zI (k + 1))), (2, .int (zI r)), (1, .int (zI b)), (0, .int (zI a))]) hx hb dL_gcd_27 hl (k := 1) rfl (by decide) rfl (fun ls hl => ?_)
        refine lv_goto (tgt := 4) hx hb dL_gcd_30 (by decide) ?_
        exact ih4 r (k + 1) ls ⟨by omega, by omega, aw_gp_f hJ4.2.2 (fun _ q => c18 q)⟩ (by omega) (lv_sub hl [0, 1, 2, 3] rfl)
      · skip
        refine lv_iload_n hx hb dL_gcd_21 rfl (lv_at hl 0 rfl) ?_
        refine lv_goto (tgt := 26) hx hb dL_gcd_22 (by decide) ?_
        refine lv_istore_n (lv' := [(2, .int (zI k)), (3, .int (zI k)), (1, .int (zI b)), (0, .int (zI a))]) hx hb dL_gcd_26 rfl hl (by decide) rfl (fun ls hl => ?_)
        refine zb_iinc (lv' := [(3, .int (zI (k + 1))), (2, .int (zI k)), (1, .int (zI b)), (0, .int (zI a))]) hx hb dL_gcd_27 hl (k := 1) rfl (by decide) rfl (fun ls hl => ?_)
        refine lv_goto (tgt := 4) hx hb dL_gcd_30 (by decide) ?_
        exact ih4 k (k + 1) ls ⟨by omega, by omega, aw_gp_t hJ4.2.2 (by omega) (by omega) (by omega)⟩ (by omega) (lv_sub hl [0, 1, 2, 3] rfl)
end
