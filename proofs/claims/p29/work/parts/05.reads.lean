section
variable {l : Launch} {D : va_G} {yZ yI : ClassId} {o oa ba da pa : Nat} {P S K N w ch : Int} {ty px pr : Int32} {ob : Int → Bool} {g pf : Nat → Int32} {dv : Nat → Int}
set_option maxHeartbeats 4000000 in
set_option maxRecDepth 100000 in
/-- wrap(x, n): the remainder that is never negative -/
theorem k_wrap {x n : Int} (hx1 : -1000000 ≤ x ∧ x ≤ 1000000) (hn : 0 < n ∧ n ≤ 1000000) : aw_RO l yX0_wrap wsX0_wrap (aw_rm 0 0) D [] [] [.int (zI x), .int (zI n)] (x % n) := by
  refine Met.ofW (cc := cX0_wrap) (maxL := 3) (ret := (some .int)) (by decide) rfl ?_
  intro p e s m args below meth c s₁ B hml hv
  obtain ⟨rfl, hP, hK⟩ := hv
  have hx := B.exec
  have hb := B.bytes
  have hr := B.returns
  have hts := atoms_spec (ws := wsX0_wrap) B.pre
  have hown : s.vm.findClass RX0 = some m.cls := findClass_of_methodNamed B.named
  have hlocks := B.notSynchronized
  have hl := lv_entry ([.int (zI x), .int (zI n)]) (n := 3) (Nat.le_of_ble_eq_true rfl)
  rw [lg_entry_eq]
  generalize (lg_sl ([.int (zI x), .int (zI n)]) ++ List.replicate (3 - (lg_sl ([.int (zI x), .int (zI n)])).length) Slot.unset).toArray = ls at hl ⊢
  have hl : lv_has ls 3 [(0, .int (zI x)), (1, .int (zI n))] := hl
  refine lv_iload_n hx hb dX0_wrap_0 rfl (lv_at hl 1 rfl) ?_
  refine zb_igt (tgt := 6) hx hb dX0_wrap_1 (by decide) (by omega) (fun c1 => ?_) (fun c1 => absurd c1 (by omega))
  refine lv_iload_n hx hb dX0_wrap_6 rfl (lv_at hl 0 rfl) ?_
  refine lv_iload_n hx hb dX0_wrap_7 rfl (lv_at hl 1 rfl) ?_
  refine zb_trem hx hb dX0_wrap_8 (by omega) (by omega) ?_
  refine zb_nm (fun r e_r => ?_)
  have hr1 := Int.emod_emod_of_dvd x (Int.dvd_refl n)
  have hm := aw_mod (x := x) hn.1
  have hrr : -n < r ∧ r < n ∧ (0 ≤ r → r = x % n) ∧ (r < 0 → r + n = x % n) := by rw [e_r]; exact aw_tmod hn.1
  refine lv_istore_n (lv' := [(2, .int (zI r)), (0, .int (zI x)), (1, .int (zI n))]) hx hb dX0_wrap_9 rfl hl (by decide) rfl (fun ls hl => ?_)
  refine lv_iload_n hx hb dX0_wrap_10 rfl (lv_at hl 0 rfl) ?_
  refine zb_ige (tgt := 20) hx hb dX0_wrap_11 (by decide) (by omega) (fun c11 => ?_) (fun c11 => ?_)
  · skip
    refine lv_iload_n hx hb dX0_wrap_20 rfl (lv_at hl 0 rfl) ?_
    exact aw_iret hx hb hr hlocks dX0_wrap_21 (hrr.2.2.1 (by omega))
  · skip
    refine lv_iload_n hx hb dX0_wrap_14 rfl (lv_at hl 0 rfl) ?_
    refine lv_iload_n hx hb dX0_wrap_15 rfl (lv_at hl 2 rfl) ?_
    refine zb_add hx hb dX0_wrap_16 ?_
    refine lv_goto (tgt := 21) hx hb dX0_wrap_17 (by decide) ?_
    exact aw_iret hx hb hr hlocks dX0_wrap_21 (hrr.2.2.2 (by omega))
set_option maxHeartbeats 4000000 in
set_option maxRecDepth 100000 in
/-- slotPitch() -/
theorem k_slotPitch (hI : aw_In P S K N w ch) : aw_RO l yX0_slotPitch wsX0_slotPitch (aw_rm 0 0) D (aw_T yZ yI) (aw_W3 yZ yI o oa ba P S K N ty px pr w ch ob g) [.ref o] (aw_sp P S ch) := by
  refine Met.ofW (cc := cX0_slotPitch) (maxL := 3) (ret := (some .int)) (by decide) rfl ?_
  intro p e s m args below meth c s₁ B hml hv
  obtain ⟨rfl, hP, hK⟩ := hv
  have hx := B.exec
  have hb := B.bytes
  have hr := B.returns
  have hts := atoms_spec (ws := wsX0_slotPitch) B.pre
  have hown : s.vm.findClass RX0 = some m.cls := findClass_of_methodNamed B.named
  have hlocks := B.notSynchronized
  have hin : ∀ w ∈ wsX00, w ∈ wsX0_slotPitch := fun w h => List.mem_cons_of_mem _ (List.mem_append_right _ h)
  have hf_40 := hts (.fieldLink RX0 40 "ArmatureWinding" "chording" "I") (by decide +kernel)
  have hf_46 := hts (.fieldLink RX0 46 "ArmatureWinding" "poles" "I") (by decide +kernel)
  have hf_49 := hts (.fieldLink RX0 49 "ArmatureWinding" "slots" "I") (by decide +kernel)
  have hl := lv_entry ([.ref o]) (n := 3) (Nat.le_of_ble_eq_true rfl)
  rw [lg_entry_eq]
  generalize (lg_sl ([.ref o]) ++ List.replicate (3 - (lg_sl ([.ref o])).length) Slot.unset).toArray = ls at hl ⊢
  have hl : lv_has ls 3 [(0, .ref o)] := hl
  obtain ⟨i1, i2, i3, i4, i5, i6, i7, i8, i9, i10, i11, i12, i13⟩ := id hI
  have hd := aw_div (x := S) (n := P) (by omega) (by omega)
  refine lv_aload_n hx hb dX0_slotPitch_0 rfl (lv_at hl 0 rfl) ?_
  refine va_get (D := D) (ci := 0) (v := .int (zI P)) (C := RX0) (T := TX0) (N := 11) hx hb hts hin hown hK hP 0 rfl rfl 0 (by decide) hf_46 (fun _ h9 => h9) rfl dX0_slotPitch_1 ?_
  refine zb_ile (tgt := 19) hx hb dX0_slotPitch_4 (by decide) (by omega) (fun c4 => absurd c4 (by omega)) (fun c4 => ?_)
  refine lv_aload_n hx hb dX0_slotPitch_7 rfl (lv_at hl 0 rfl) ?_
  refine va_get (D := D) (ci := 0) (v := .int (zI S)) (C := RX0) (T := TX0) (N := 11) hx hb hts hin hown hK hP 0 rfl rfl 1 (by decide) hf_49 (fun _ h9 => h9) rfl dX0_slotPitch_8 ?_
  refine lv_aload_n hx hb dX0_slotPitch_11 rfl (lv_at hl 0 rfl) ?_
  refine va_get (D := D) (ci := 0) (v := .int (zI P)) (C := RX0) (T := TX0) (N := 11) hx hb hts hin hown hK hP 0 rfl rfl 0 (by decide) hf_46 (fun _ h9 => h9) rfl dX0_slotPitch_12 ?_
  refine zb_div hx hb dX0_slotPitch_15 (by omega) (by omega) ?_
  refine lv_goto (tgt := 20) hx hb dX0_slotPitch_16 (by decide) ?_
  refine lv_istore_n (lv' := [(1, .int (zI (S / P))), (0, .ref o)]) hx hb dX0_slotPitch_20 rfl hl (by decide) rfl (fun ls hl => ?_)
  refine lv_iload_n hx hb dX0_slotPitch_21 rfl (lv_at hl 0 rfl) ?_
  refine lv_aload_n hx hb dX0_slotPitch_22 rfl (lv_at hl 1 rfl) ?_
  refine va_get (D := D) (ci := 0) (v := .int (zI ch)) (C := RX0) (T := TX0) (N := 11) hx hb hts hin hown hK hP 0 rfl rfl 8 (by decide) hf_40 (fun _ h9 => h9) rfl dX0_slotPitch_23 ?_
  refine zb_sub hx hb dX0_slotPitch_26 ?_
  refine lv_istore_n (lv' := [(2, .int (zI ((S / P) - ch))), (1, .int (zI (S / P))), (0, .ref o)]) hx hb dX0_slotPitch_27 rfl hl (by decide) rfl (fun ls hl => ?_)
  refine lv_iload_n hx hb dX0_slotPitch_28 rfl (lv_at hl 0 rfl) ?_
  refine zb_iconst hx hb dX0_slotPitch_29 ?_
  refine zb_cge (tgt := 37) hx hb dX0_slotPitch_30 (by decide) (by omega) (by omega) (fun c30 => ?_) (fun c30 => ?_)
  · skip
    refine lv_iload_n hx hb dX0_slotPitch_37 rfl (lv_at hl 0 rfl) ?_
    exact aw_iret hx hb hr hlocks dX0_slotPitch_38 (by unfold aw_sp; rw [if_neg (by omega)])
  · skip
    refine zb_iconst hx hb dX0_slotPitch_33 ?_
    refine lv_goto (tgt := 38) hx hb dX0_slotPitch_34 (by decide) ?_
    exact aw_iret hx hb hr hlocks dX0_slotPitch_38 (by unfold aw_sp; rw [if_pos (by omega)])
set_option maxHeartbeats 4000000 in
set_option maxRecDepth 100000 in
/-- coilCount() -/
theorem k_coilCount  : aw_RO l yX0_coilCount wsX0_coilCount (aw_rm 0 0) D (aw_T yZ yI) (aw_W3 yZ yI o oa ba P S K N ty px pr w ch ob g) [.ref o] (N) := by
  refine Met.ofW (cc := cX0_coilCount) (maxL := 1) (ret := (some .int)) (by decide) rfl ?_
  intro p e s m args below meth c s₁ B hml hv
  obtain ⟨rfl, hP, hK⟩ := hv
  have hx := B.exec
  have hb := B.bytes
  have hr := B.returns
  have hts := atoms_spec (ws := wsX0_coilCount) B.pre
  have hown : s.vm.findClass RX0 = some m.cls := findClass_of_methodNamed B.named
  have hlocks := B.notSynchronized
  have hin : ∀ w ∈ wsX00, w ∈ wsX0_coilCount := fun w h => List.mem_cons_of_mem _ (List.mem_append_right _ h)
  have hf_21 := hts (.fieldLink RX0 21 "ArmatureWinding" "coils" "I") (by decide +kernel)
  have hl := lv_entry ([.ref o]) (n := 1) (Nat.le_of_ble_eq_true rfl)
  rw [lg_entry_eq]
  generalize (lg_sl ([.ref o]) ++ List.replicate (1 - (lg_sl ([.ref o])).length) Slot.unset).toArray = ls at hl ⊢
  have hl : lv_has ls 1 [(0, .ref o)] := hl
  refine lv_aload_n hx hb dX0_coilCount_0 rfl (lv_at hl 0 rfl) ?_
  refine va_get (D := D) (ci := 0) (v := .int (zI N)) (C := RX0) (T := TX0) (N := 11) hx hb hts hin hown hK hP 0 rfl rfl 3 (by decide) hf_21 (fun _ h9 => h9) rfl dX0_coilCount_1 ?_
  exact aw_iret hx hb hr hlocks dX0_coilCount_4 (by first | rfl | omega)
set_option maxHeartbeats 4000000 in
set_option maxRecDepth 100000 in
/-- endBar(z) -/
theorem k_endBar (hI : aw_In P S K N w ch) {z : Int} (hz : 0 ≤ z ∧ z < N) : aw_RO l yX0_endBar wsX0_endBar (aw_rm 1 22) D (aw_T yZ yI) (aw_W3 yZ yI o oa ba P S K N ty px pr w ch ob g) [.ref o, .int (zI z)] ((z + w) % N) := by
  refine Met.ofW (cc := cX0_endBar) (maxL := 2) (ret := (some .int)) (by decide) rfl ?_
  intro p e s m args below meth c s₁ B hml hv
  obtain ⟨rfl, hP, hK⟩ := hv
  have hx := B.exec
  have hb := B.bytes
  have hr := B.returns
  have hts := atoms_spec (ws := wsX0_endBar) B.pre
  have hown : s.vm.findClass RX0 = some m.cls := findClass_of_methodNamed B.named
  have hlocks := B.notSynchronized
  have hin : ∀ w ∈ wsX00, w ∈ wsX0_endBar := fun w h => List.mem_cons_of_mem _ (List.mem_append_right _ h)
  have hf_21 := hts (.fieldLink RX0 21 "ArmatureWinding" "coils" "I") (by decide +kernel)
  have hf_37 := hts (.fieldLink RX0 37 "ArmatureWinding" "pitch" "I") (by decide +kernel)
  have hl := lv_entry ([.ref o, .int (zI z)]) (n := 2) (Nat.le_of_ble_eq_true rfl)
  rw [lg_entry_eq]
  generalize (lg_sl ([.ref o, .int (zI z)]) ++ List.replicate (2 - (lg_sl ([.ref o, .int (zI z)])).length) Slot.unset).toArray = ls at hl ⊢
  have hl : lv_has ls 2 [(0, .ref o), (1, .int (zI z))] := hl
  obtain ⟨i1, i2, i3, i4, i5, i6, i7, i8, i9, i10, i11, i12, i13⟩ := id hI
  refine lv_iload_n hx hb dX0_endBar_0 rfl (lv_at hl 1 rfl) ?_
  refine zb_ilt (tgt := 12) hx hb dX0_endBar_1 (by decide) (by omega) (fun c1 => absurd c1 (by omega)) (fun c1 => ?_)
  refine lv_iload_n hx hb dX0_endBar_4 rfl (lv_at hl 1 rfl) ?_
  refine lv_aload_n hx hb dX0_endBar_5 rfl (lv_at hl 0 rfl) ?_
  refine va_get (D := D) (ci := 0) (v := .int (zI N)) (C := RX0) (T := TX0) (N := 11) hx hb hts hin hown hK hP 0 rfl rfl 3 (by decide) hf_21 (fun _ h9 => h9) rfl dX0_endBar_6 ?_
  refine zb_clt (tgt := 16) hx hb dX0_endBar_9 (by decide) (by omega) (by omega) (fun c9 => ?_) (fun c9 => absurd c9 (by omega))
  refine lv_iload_n hx hb dX0_endBar_16 rfl (lv_at hl 1 rfl) ?_
  refine lv_aload_n hx hb dX0_endBar_17 rfl (lv_at hl 0 rfl) ?_
  refine va_get (D := D) (ci := 0) (v := .int (zI w)) (C := RX0) (T := TX0) (N := 11) hx hb hts hin hown hK hP 0 rfl rfl 7 (by decide) hf_37 (fun _ h9 => h9) rfl dX0_endBar_18 ?_
  refine zb_add hx hb dX0_endBar_21 ?_
  refine lv_aload_n hx hb dX0_endBar_22 rfl (lv_at hl 0 rfl) ?_
  refine va_get (D := D) (ci := 0) (v := .int (zI N)) (C := RX0) (T := TX0) (N := 11) hx hb hts hin hown hK hP 0 rfl rfl 3 (by decide) hf_21 (fun _ h9 => h9) rfl dX0_endBar_23 ?_
  refine aw_callS (As := [.int (zI (z + w)), .int (zI N)]) (rest := []) ⟨hx, hb, hml, hown, hts⟩ (k_wrap (x := z + w) (n := N) ⟨by omega, by omega⟩ ⟨by omega, by omega⟩) (va_cwS 2 hts gX0_endBar_X0_wrap rfl rfl rfl (by decide +kernel) ⟨Nat.le_of_ble_eq_true rfl, Nat.le_of_ble_eq_true rfl⟩) (hP.sub (ws' := []) [] rfl) (hK.sub (tys' := []) [] rfl) rfl hl.1 rfl (Nat.le_of_ble_eq_true rfl) dX0_endBar_26 ⟨Nat.zero_le _, Nat.zero_le _⟩ ?_
  exact aw_iret hx hb hr hlocks dX0_endBar_29 (by first | rfl | omega)
set_option maxHeartbeats 4000000 in
set_option maxRecDepth 100000 in
/-- endBar(z), no such coil -/
theorem k_endBar_no (hI : aw_In P S K N w ch) {z : Int} (hz : -1000 ≤ z ∧ z ≤ 1000) (hz2 : z < 0 ∨ N ≤ z) : aw_RO l yX0_endBar wsX0_endBar (aw_rm 1 22) D (aw_T yZ yI) (aw_W3 yZ yI o oa ba P S K N ty px pr w ch ob g) [.ref o, .int (zI z)] (-1002) := by
  refine Met.ofW (cc := cX0_endBar) (maxL := 2) (ret := (some .int)) (by decide) rfl ?_
  intro p e s m args below meth c s₁ B hml hv
  obtain ⟨rfl, hP, hK⟩ := hv
  have hx := B.exec
  have hb := B.bytes
  have hr := B.returns
  have hts := atoms_spec (ws := wsX0_endBar) B.pre
  have hown : s.vm.findClass RX0 = some m.cls := findClass_of_methodNamed B.named
  have hlocks := B.notSynchronized
  have hin : ∀ w ∈ wsX00, w ∈ wsX0_endBar := fun w h => List.mem_cons_of_mem _ (List.mem_append_right _ h)
  have hf_21 := hts (.fieldLink RX0 21 "ArmatureWinding" "coils" "I") (by decide +kernel)
  have hf_37 := hts (.fieldLink RX0 37 "ArmatureWinding" "pitch" "I") (by decide +kernel)
  have hl := lv_entry ([.ref o, .int (zI z)]) (n := 2) (Nat.le_of_ble_eq_true rfl)
  rw [lg_entry_eq]
  generalize (lg_sl ([.ref o, .int (zI z)]) ++ List.replicate (2 - (lg_sl ([.ref o, .int (zI z)])).length) Slot.unset).toArray = ls at hl ⊢
  have hl : lv_has ls 2 [(0, .ref o), (1, .int (zI z))] := hl
  obtain ⟨i1, i2, i3, i4, i5, i6, i7, i8, i9, i10, i11, i12, i13⟩ := id hI
  refine lv_iload_n hx hb dX0_endBar_0 rfl (lv_at hl 1 rfl) ?_
  refine zb_ilt (tgt := 12) hx hb dX0_endBar_1 (by decide) (by omega) (fun c1 => ?_) (fun c1 => ?_)
  · skip
    refine zb_sipush hx hb dX0_endBar_12 (by decide) ?_
    exact aw_iret hx hb hr hlocks dX0_endBar_15 (by first | rfl | omega)
  · skip
    refine lv_iload_n hx hb dX0_endBar_4 rfl (lv_at hl 1 rfl) ?_
    refine lv_aload_n hx hb dX0_endBar_5 rfl (lv_at hl 0 rfl) ?_
    refine va_get (D := D) (ci := 0) (v := .int (zI N)) (C := RX0) (T := TX0) (N := 11) hx hb hts hin hown hK hP 0 rfl rfl 3 (by decide) hf_21 (fun _ h9 => h9) rfl dX0_endBar_6 ?_
    refine zb_clt (tgt := 16) hx hb dX0_endBar_9 (by decide) (by omega) (by omega) (fun c9 => absurd c9 (by omega)) (fun c9 => ?_)
    refine zb_sipush hx hb dX0_endBar_12 (by decide) ?_
    exact aw_iret hx hb hr hlocks dX0_endBar_15 (by first | rfl | omega)
set_option maxHeartbeats 4000000 in
set_option maxRecDepth 100000 in
/-- coilEndingAt(z) -/
theorem k_coilEndingAt (hI : aw_In P S K N w ch) {z : Int} (hz : 0 ≤ z ∧ z < N) : aw_RO l yX0_coilEndingAt wsX0_coilEndingAt (aw_rm 1 22) D (aw_T yZ yI) (aw_W3 yZ yI o oa ba P S K N ty px pr w ch ob g) [.ref o, .int (zI z)] ((z - w) % N) := by
  refine Met.ofW (cc := cX0_coilEndingAt) (maxL := 2) (ret := (some .int)) (by decide) rfl ?_
  intro p e s m args below meth c s₁ B hml hv
  obtain ⟨rfl, hP, hK⟩ := hv
  have hx := B.exec
  have hb := B.bytes
  have hr := B.returns
  have hts := atoms_spec (ws := wsX0_coilEndingAt) B.pre
  have hown : s.vm.findClass RX0 = some m.cls := findClass_of_methodNamed B.named
  have hlocks := B.notSynchronized
  have hin : ∀ w ∈ wsX00, w ∈ wsX0_coilEndingAt := fun w h => List.mem_cons_of_mem _ (List.mem_append_right _ h)
  have hf_21 := hts (.fieldLink RX0 21 "ArmatureWinding" "coils" "I") (by decide +kernel)
  have hf_37 := hts (.fieldLink RX0 37 "ArmatureWinding" "pitch" "I") (by decide +kernel)
  have hl := lv_entry ([.ref o, .int (zI z)]) (n := 2) (Nat.le_of_ble_eq_true rfl)
  rw [lg_entry_eq]
  generalize (lg_sl ([.ref o, .int (zI z)]) ++ List.replicate (2 - (lg_sl ([.ref o, .int (zI z)])).length) Slot.unset).toArray = ls at hl ⊢
  have hl : lv_has ls 2 [(0, .ref o), (1, .int (zI z))] := hl
  obtain ⟨i1, i2, i3, i4, i5, i6, i7, i8, i9, i10, i11, i12, i13⟩ := id hI
  refine lv_iload_n hx hb dX0_coilEndingAt_0 rfl (lv_at hl 1 rfl) ?_
  refine zb_ilt (tgt := 12) hx hb dX0_coilEndingAt_1 (by decide) (by omega) (fun c1 => absurd c1 (by omega)) (fun c1 => ?_)
  refine lv_iload_n hx hb dX0_coilEndingAt_4 rfl (lv_at hl 1 rfl) ?_
  refine lv_aload_n hx hb dX0_coilEndingAt_5 rfl (lv_at hl 0 rfl) ?_
  refine va_get (D := D) (ci := 0) (v := .int (zI N)) (C := RX0) (T := TX0) (N := 11) hx hb hts hin hown hK hP 0 rfl rfl 3 (by decide) hf_21 (fun _ h9 => h9) rfl dX0_coilEndingAt_6 ?_
  refine zb_clt (tgt := 16) hx hb dX0_coilEndingAt_9 (by decide) (by omega) (by omega) (fun c9 => ?_) (fun c9 => absurd c9 (by omega))
  refine lv_iload_n hx hb dX0_coilEndingAt_16 rfl (lv_at hl 1 rfl) ?_
  refine lv_aload_n hx hb dX0_coilEndingAt_17 rfl (lv_at hl 0 rfl) ?_
  refine va_get (D := D) (ci := 0) (v := .int (zI w)) (C := RX0) (T := TX0) (N := 11) hx hb hts hin hown hK hP 0 rfl rfl 7 (by decide) hf_37 (fun _ h9 => h9) rfl dX0_coilEndingAt_18 ?_
  refine zb_sub hx hb dX0_coilEndingAt_21 ?_
  refine lv_aload_n hx hb dX0_coilEndingAt_22 rfl (lv_at hl 0 rfl) ?_
  refine va_get (D := D) (ci := 0) (v := .int (zI N)) (C := RX0) (T := TX0) (N := 11) hx hb hts hin hown hK hP 0 rfl rfl 3 (by decide) hf_21 (fun _ h9 => h9) rfl dX0_coilEndingAt_23 ?_
  refine aw_callS (As := [.int (zI (z - w)), .int (zI N)]) (rest := []) ⟨hx, hb, hml, hown, hts⟩ (k_wrap (x := z - w) (n := N) ⟨by omega, by omega⟩ ⟨by omega, by omega⟩) (va_cwS 2 hts gX0_coilEndingAt_X0_wrap rfl rfl rfl (by decide +kernel) ⟨Nat.le_of_ble_eq_true rfl, Nat.le_of_ble_eq_true rfl⟩) (hP.sub (ws' := []) [] rfl) (hK.sub (tys' := []) [] rfl) rfl hl.1 rfl (Nat.le_of_ble_eq_true rfl) dX0_coilEndingAt_26 ⟨Nat.zero_le _, Nat.zero_le _⟩ ?_
  exact aw_iret hx hb hr hlocks dX0_coilEndingAt_29 (by first | rfl | omega)
set_option maxHeartbeats 4000000 in
set_option maxRecDepth 100000 in
/-- coilEndingAt(z), no such coil -/
theorem k_coilEndingAt_no (hI : aw_In P S K N w ch) {z : Int} (hz : -1000 ≤ z ∧ z ≤ 1000) (hz2 : z < 0 ∨ N ≤ z) : aw_RO l yX0_coilEndingAt wsX0_coilEndingAt (aw_rm 1 22) D (aw_T yZ yI) (aw_W3 yZ yI o oa ba P S K N ty px pr w ch ob g) [.ref o, .int (zI z)] (-1002) := by
  refine Met.ofW (cc := cX0_coilEndingAt) (maxL := 2) (ret := (some .int)) (by decide) rfl ?_
  intro p e s m args below meth c s₁ B hml hv
  obtain ⟨rfl, hP, hK⟩ := hv
  have hx := B.exec
  have hb := B.bytes
  have hr := B.returns
  have hts := atoms_spec (ws := wsX0_coilEndingAt) B.pre
  have hown : s.vm.findClass RX0 = some m.cls := findClass_of_methodNamed B.named
  have hlocks := B.notSynchronized
  have hin : ∀ w ∈ wsX00, w ∈ wsX0_coilEndingAt := fun w h => List.mem_cons_of_mem _ (List.mem_append_right _ h)
  have hf_21 := hts (.fieldLink RX0 21 "ArmatureWinding" "coils" "I") (by decide +kernel)
  have hf_37 := hts (.fieldLink RX0 37 "ArmatureWinding" "pitch" "I") (by decide +kernel)
  have hl := lv_entry ([.ref o, .int (zI z)]) (n := 2) (Nat.le_of_ble_eq_true rfl)
  rw [lg_entry_eq]
  generalize (lg_sl ([.ref o, .int (zI z)]) ++ List.replicate (2 - (lg_sl ([.ref o, .int (zI z)])).length) Slot.unset).toArray = ls at hl ⊢
  have hl : lv_has ls 2 [(0, .ref o), (1, .int (zI z))] := hl
  obtain ⟨i1, i2, i3, i4, i5, i6, i7, i8, i9, i10, i11, i12, i13⟩ := id hI
  refine lv_iload_n hx hb dX0_coilEndingAt_0 rfl (lv_at hl 1 rfl) ?_
  refine zb_ilt (tgt := 12) hx hb dX0_coilEndingAt_1 (by decide) (by omega) (fun c1 => ?_) (fun c1 => ?_)
  · skip
    refine zb_sipush hx hb dX0_coilEndingAt_12 (by decide) ?_
    exact aw_iret hx hb hr hlocks dX0_coilEndingAt_15 (by first | rfl | omega)
  · skip
    refine lv_iload_n hx hb dX0_coilEndingAt_4 rfl (lv_at hl 1 rfl) ?_
    refine lv_aload_n hx hb dX0_coilEndingAt_5 rfl (lv_at hl 0 rfl) ?_
    refine va_get (D := D) (ci := 0) (v := .int (zI N)) (C := RX0) (T := TX0) (N := 11) hx hb hts hin hown hK hP 0 rfl rfl 3 (by decide) hf_21 (fun _ h9 => h9) rfl dX0_coilEndingAt_6 ?_
    refine zb_clt (tgt := 16) hx hb dX0_coilEndingAt_9 (by decide) (by omega) (by omega) (fun c9 => absurd c9 (by omega)) (fun c9 => ?_)
    refine zb_sipush hx hb dX0_coilEndingAt_12 (by decide) ?_
    exact aw_iret hx hb hr hlocks dX0_coilEndingAt_15 (by first | rfl | omega)
set_option maxHeartbeats 4000000 in
set_option maxRecDepth 100000 in
/-- upperSlot(z) -/
theorem k_upperSlot (hI : aw_In P S K N w ch) {z : Int} (hz : 0 ≤ z ∧ z < N) : aw_RO l yX0_upperSlot wsX0_upperSlot (aw_rm 0 0) D (aw_T yZ yI) (aw_W3 yZ yI o oa ba P S K N ty px pr w ch ob g) [.ref o, .int (zI z)] (z / K) := by
  refine Met.ofW (cc := cX0_upperSlot) (maxL := 2) (ret := (some .int)) (by decide) rfl ?_
  intro p e s m args below meth c s₁ B hml hv
  obtain ⟨rfl, hP, hK⟩ := hv
  have hx := B.exec
  have hb := B.bytes
  have hr := B.returns
  have hts := atoms_spec (ws := wsX0_upperSlot) B.pre
  have hown : s.vm.findClass RX0 = some m.cls := findClass_of_methodNamed B.named
  have hlocks := B.notSynchronized
  have hin : ∀ w ∈ wsX00, w ∈ wsX0_upperSlot := fun w h => List.mem_cons_of_mem _ (List.mem_append_right _ h)
  have hf_21 := hts (.fieldLink RX0 21 "ArmatureWinding" "coils" "I") (by decide +kernel)
  have hf_52 := hts (.fieldLink RX0 52 "ArmatureWinding" "coilsPerSlot" "I") (by decide +kernel)
  have hl := lv_entry ([.ref o, .int (zI z)]) (n := 2) (Nat.le_of_ble_eq_true rfl)
  rw [lg_entry_eq]
  generalize (lg_sl ([.ref o, .int (zI z)]) ++ List.replicate (2 - (lg_sl ([.ref o, .int (zI z)])).length) Slot.unset).toArray = ls at hl ⊢
  have hl : lv_has ls 2 [(0, .ref o), (1, .int (zI z))] := hl
  obtain ⟨i1, i2, i3, i4, i5, i6, i7, i8, i9, i10, i11, i12, i13⟩ := id hI
  refine lv_iload_n hx hb dX0_upperSlot_0 rfl (lv_at hl 1 rfl) ?_
  refine zb_ilt (tgt := 19) hx hb dX0_upperSlot_1 (by decide) (by omega) (fun c1 => absurd c1 (by omega)) (fun c1 => ?_)
  refine lv_iload_n hx hb dX0_upperSlot_4 rfl (lv_at hl 1 rfl) ?_
  refine lv_aload_n hx hb dX0_upperSlot_5 rfl (lv_at hl 0 rfl) ?_
  refine va_get (D := D) (ci := 0) (v := .int (zI N)) (C := RX0) (T := TX0) (N := 11) hx hb hts hin hown hK hP 0 rfl rfl 3 (by decide) hf_21 (fun _ h9 => h9) rfl dX0_upperSlot_6 ?_
  refine zb_cge (tgt := 19) hx hb dX0_upperSlot_9 (by decide) (by omega) (by omega) (fun c9 => absurd c9 (by omega)) (fun c9 => ?_)
  refine lv_aload_n hx hb dX0_upperSlot_12 rfl (lv_at hl 0 rfl) ?_
  refine va_get (D := D) (ci := 0) (v := .int (zI K)) (C := RX0) (T := TX0) (N := 11) hx hb hts hin hown hK hP 0 rfl rfl 2 (by decide) hf_52 (fun _ h9 => h9) rfl dX0_upperSlot_13 ?_
  refine zb_igt (tgt := 23) hx hb dX0_upperSlot_16 (by decide) (by omega) (fun c16 => ?_) (fun c16 => absurd c16 (by omega))
  refine lv_iload_n hx hb dX0_upperSlot_23 rfl (lv_at hl 1 rfl) ?_
  refine lv_aload_n hx hb dX0_upperSlot_24 rfl (lv_at hl 0 rfl) ?_
  refine va_get (D := D) (ci := 0) (v := .int (zI K)) (C := RX0) (T := TX0) (N := 11) hx hb hts hin hown hK hP 0 rfl rfl 2 (by decide) hf_52 (fun _ h9 => h9) rfl dX0_upperSlot_25 ?_
  refine zb_div hx hb dX0_upperSlot_28 (by omega) (by omega) ?_
  exact aw_iret hx hb hr hlocks dX0_upperSlot_29 (by first | rfl | omega)
set_option maxHeartbeats 4000000 in
set_option maxRecDepth 100000 in
/-- upperSlot(z), no such coil -/
theorem k_upperSlot_no (hI : aw_In P S K N w ch) {z : Int} (hz : -1000 ≤ z ∧ z ≤ 1000) (hz2 : z < 0 ∨ N ≤ z) : aw_RO l yX0_upperSlot wsX0_upperSlot (aw_rm 0 0) D (aw_T yZ yI) (aw_W3 yZ yI o oa ba P S K N ty px pr w ch ob g) [.ref o, .int (zI z)] (-1002) := by
  refine Met.ofW (cc := cX0_upperSlot) (maxL := 2) (ret := (some .int)) (by decide) rfl ?_
  intro p e s m args below meth c s₁ B hml hv
  obtain ⟨rfl, hP, hK⟩ := hv
  have hx := B.exec
  have hb := B.bytes
  have hr := B.returns
  have hts := atoms_spec (ws := wsX0_upperSlot) B.pre
  have hown : s.vm.findClass RX0 = some m.cls := findClass_of_methodNamed B.named
  have hlocks := B.notSynchronized
  have hin : ∀ w ∈ wsX00, w ∈ wsX0_upperSlot := fun w h => List.mem_cons_of_mem _ (List.mem_append_right _ h)
  have hf_21 := hts (.fieldLink RX0 21 "ArmatureWinding" "coils" "I") (by decide +kernel)
  have hf_52 := hts (.fieldLink RX0 52 "ArmatureWinding" "coilsPerSlot" "I") (by decide +kernel)
  have hl := lv_entry ([.ref o, .int (zI z)]) (n := 2) (Nat.le_of_ble_eq_true rfl)
  rw [lg_entry_eq]
  generalize (lg_sl ([.ref o, .int (zI z)]) ++ List.replicate (2 - (lg_sl ([.ref o, .int (zI z)])).length) Slot.unset).toArray = ls at hl ⊢
  have hl : lv_has ls 2 [(0, .ref o), (1, .int (zI z))] := hl
  obtain ⟨i1, i2, i3, i4, i5, i6, i7, i8, i9, i10, i11, i12, i13⟩ := id hI
  refine lv_iload_n hx hb dX0_upperSlot_0 rfl (lv_at hl 1 rfl) ?_
  refine zb_ilt (tgt := 19) hx hb dX0_upperSlot_1 (by decide) (by omega) (fun c1 => ?_) (fun c1 => ?_)
  · skip
    refine zb_sipush hx hb dX0_upperSlot_19 (by decide) ?_
    exact aw_iret hx hb hr hlocks dX0_upperSlot_22 (by first | rfl | omega)
  · skip
    refine lv_iload_n hx hb dX0_upperSlot_4 rfl (lv_at hl 1 rfl) ?_
    refine lv_aload_n hx hb dX0_upperSlot_5 rfl (lv_at hl 0 rfl) ?_
    refine va_get (D := D) (ci := 0) (v := .int (zI N)) (C := RX0) (T := TX0) (N := 11) hx hb hts hin hown hK hP 0 rfl rfl 3 (by decide) hf_21 (fun _ h9 => h9) rfl dX0_upperSlot_6 ?_
    refine zb_cge (tgt := 19) hx hb dX0_upperSlot_9 (by decide) (by omega) (by omega) (fun c9 => ?_) (fun c9 => absurd c9 (by omega))
    refine zb_sipush hx hb dX0_upperSlot_19 (by decide) ?_
    exact aw_iret hx hb hr hlocks dX0_upperSlot_22 (by first | rfl | omega)
set_option maxHeartbeats 4000000 in
set_option maxRecDepth 100000 in
/-- lowerSlot(z) -/
theorem k_lowerSlot (hI : aw_In P S K N w ch) {z : Int} (hz : 0 ≤ z ∧ z < N) : aw_RO l yX0_lowerSlot wsX0_lowerSlot (aw_rm 1 22) D (aw_T yZ yI) (aw_W3 yZ yI o oa ba P S K N ty px pr w ch ob g) [.ref o, .int (zI z)] (aw_lo P S K ch z) := by
  refine Met.ofW (cc := cX0_lowerSlot) (maxL := 2) (ret := (some .int)) (by decide) rfl ?_
  intro p e s m args below meth c s₁ B hml hv
  obtain ⟨rfl, hP, hK⟩ := hv
  have hx := B.exec
  have hb := B.bytes
  have hr := B.returns
  have hts := atoms_spec (ws := wsX0_lowerSlot) B.pre
  have hown : s.vm.findClass RX0 = some m.cls := findClass_of_methodNamed B.named
  have hlocks := B.notSynchronized
  have hin : ∀ w ∈ wsX00, w ∈ wsX0_lowerSlot := fun w h => List.mem_cons_of_mem _ (List.mem_append_right _ h)
  have hf_21 := hts (.fieldLink RX0 21 "ArmatureWinding" "coils" "I") (by decide +kernel)
  have hf_49 := hts (.fieldLink RX0 49 "ArmatureWinding" "slots" "I") (by decide +kernel)
  have hl := lv_entry ([.ref o, .int (zI z)]) (n := 2) (Nat.le_of_ble_eq_true rfl)
  rw [lg_entry_eq]
  generalize (lg_sl ([.ref o, .int (zI z)]) ++ List.replicate (2 - (lg_sl ([.ref o, .int (zI z)])).length) Slot.unset).toArray = ls at hl ⊢
  have hl : lv_has ls 2 [(0, .ref o), (1, .int (zI z))] := hl
  obtain ⟨i1, i2, i3, i4, i5, i6, i7, i8, i9, i10, i11, i12, i13⟩ := id hI
  have hq := aw_div (x := z) (n := K) (by omega) (by omega)
  have hs := aw_sp_in (P := P) (S := S) (ch := ch) (by omega) (by omega) (by omega)
  refine lv_iload_n hx hb dX0_lowerSlot_0 rfl (lv_at hl 1 rfl) ?_
  refine zb_ilt (tgt := 12) hx hb dX0_lowerSlot_1 (by decide) (by omega) (fun c1 => absurd c1 (by omega)) (fun c1 => ?_)
  refine lv_iload_n hx hb dX0_lowerSlot_4 rfl (lv_at hl 1 rfl) ?_
  refine lv_aload_n hx hb dX0_lowerSlot_5 rfl (lv_at hl 0 rfl) ?_
  refine va_get (D := D) (ci := 0) (v := .int (zI N)) (C := RX0) (T := TX0) (N := 11) hx hb hts hin hown hK hP 0 rfl rfl 3 (by decide) hf_21 (fun _ h9 => h9) rfl dX0_lowerSlot_6 ?_
  refine zb_clt (tgt := 16) hx hb dX0_lowerSlot_9 (by decide) (by omega) (by omega) (fun c9 => ?_) (fun c9 => absurd c9 (by omega))
  refine lv_aload_n hx hb dX0_lowerSlot_16 rfl (lv_at hl 0 rfl) ?_
  refine lv_iload_n hx hb dX0_lowerSlot_17 rfl (lv_at hl 1 rfl) ?_
  refine aw_callV (As := [.int (zI z)]) (rest := []) ⟨hx, hb, hml, hown, hts⟩ (k_upperSlot hI hz) (cwV 1 hts gX0_lowerSlot_X0_upperSlot rfl rfl rfl (by decide +kernel) ⟨Nat.le_of_ble_eq_true rfl, Nat.le_of_ble_eq_true rfl⟩) hP hK rfl rfl rfl hl.1 rfl (Nat.le_of_ble_eq_true rfl) dX0_lowerSlot_18 ⟨Nat.zero_le _, Nat.zero_le _⟩ ?_
  refine lv_aload_n hx hb dX0_lowerSlot_21 rfl (lv_at hl 0 rfl) ?_
  refine aw_callV (As := []) (rest := [.int (zI (z / K))]) ⟨hx, hb, hml, hown, hts⟩ (k_slotPitch hI) (cwV 0 hts gX0_lowerSlot_X0_slotPitch rfl rfl rfl (by decide +kernel) ⟨Nat.le_of_ble_eq_true rfl, Nat.le_of_ble_eq_true rfl⟩) hP hK rfl rfl rfl hl.1 rfl (Nat.le_of_ble_eq_true rfl) dX0_lowerSlot_22 ⟨Nat.zero_le _, Nat.zero_le _⟩ ?_
  refine zb_add hx hb dX0_lowerSlot_25 ?_
  refine lv_aload_n hx hb dX0_lowerSlot_26 rfl (lv_at hl 0 rfl) ?_
  refine va_get (D := D) (ci := 0) (v := .int (zI S)) (C := RX0) (T := TX0) (N := 11) hx hb hts hin hown hK hP 0 rfl rfl 1 (by decide) hf_49 (fun _ h9 => h9) rfl dX0_lowerSlot_27 ?_
  refine aw_callS (As := [.int (zI ((z / K) + (aw_sp P S ch))), .int (zI S)]) (rest := []) ⟨hx, hb, hml, hown, hts⟩ (k_wrap (x := z / K + aw_sp P S ch) (n := S) ⟨by omega, by omega⟩ ⟨by omega, by omega⟩) (va_cwS 2 hts gX0_lowerSlot_X0_wrap rfl rfl rfl (by decide +kernel) ⟨Nat.le_of_ble_eq_true rfl, Nat.le_of_ble_eq_true rfl⟩) (hP.sub (ws' := []) [] rfl) (hK.sub (tys' := []) [] rfl) rfl hl.1 rfl (Nat.le_of_ble_eq_true rfl) dX0_lowerSlot_30 ⟨Nat.zero_le _, Nat.zero_le _⟩ ?_
  exact aw_iret hx hb hr hlocks dX0_lowerSlot_33 (by first | rfl | omega)
set_option maxHeartbeats 4000000 in
set_option maxRecDepth 100000 in
/-- lowerSlot(z), no such coil -/
theorem k_lowerSlot_no (hI : aw_In P S K N w ch) {z : Int} (hz : -1000 ≤ z ∧ z ≤ 1000) (hz2 : z < 0 ∨ N ≤ z) : aw_RO l yX0_lowerSlot wsX0_lowerSlot (aw_rm 1 22) D (aw_T yZ yI) (aw_W3 yZ yI o oa ba P S K N ty px pr w ch ob g) [.ref o, .int (zI z)] (-1002) := by
  refine Met.ofW (cc := cX0_lowerSlot) (maxL := 2) (ret := (some .int)) (by decide) rfl ?_
  intro p e s m args below meth c s₁ B hml hv
  obtain ⟨rfl, hP, hK⟩ := hv
  have hx := B.exec
  have hb := B.bytes
  have hr := B.returns
  have hts := atoms_spec (ws := wsX0_lowerSlot) B.pre
  have hown : s.vm.findClass RX0 = some m.cls := findClass_of_methodNamed B.named
  have hlocks := B.notSynchronized
  have hin : ∀ w ∈ wsX00, w ∈ wsX0_lowerSlot := fun w h => List.mem_cons_of_mem _ (List.mem_append_right _ h)
  have hf_21 := hts (.fieldLink RX0 21 "ArmatureWinding" "coils" "I") (by decide +kernel)
  have hf_49 := hts (.fieldLink RX0 49 "ArmatureWinding" "slots" "I") (by decide +kernel)
  have hl := lv_entry ([.ref o, .int (zI z)]) (n := 2) (Nat.le_of_ble_eq_true rfl)
  rw [lg_entry_eq]
  generalize (lg_sl ([.ref o, .int (zI z)]) ++ List.replicate (2 - (lg_sl ([.ref o, .int (zI z)])).length) Slot.unset).toArray = ls at hl ⊢
  have hl : lv_has ls 2 [(0, .ref o), (1, .int (zI z))] := hl
  obtain ⟨i1, i2, i3, i4, i5, i6, i7, i8, i9, i10, i11, i12, i13⟩ := id hI
  refine lv_iload_n hx hb dX0_lowerSlot_0 rfl (lv_at hl 1 rfl) ?_
  refine zb_ilt (tgt := 12) hx hb dX0_lowerSlot_1 (by decide) (by omega) (fun c1 => ?_) (fun c1 => ?_)
  · skip
    refine zb_sipush hx hb dX0_lowerSlot_12 (by decide) ?_
    exact aw_iret hx hb hr hlocks dX0_lowerSlot_15 (by first | rfl | omega)
  · skip
    refine lv_iload_n hx hb dX0_lowerSlot_4 rfl (lv_at hl 1 rfl) ?_
    refine lv_aload_n hx hb dX0_lowerSlot_5 rfl (lv_at hl 0 rfl) ?_
    refine va_get (D := D) (ci := 0) (v := .int (zI N)) (C := RX0) (T := TX0) (N := 11) hx hb hts hin hown hK hP 0 rfl rfl 3 (by decide) hf_21 (fun _ h9 => h9) rfl dX0_lowerSlot_6 ?_
    refine zb_clt (tgt := 16) hx hb dX0_lowerSlot_9 (by decide) (by omega) (by omega) (fun c9 => absurd c9 (by omega)) (fun c9 => ?_)
    refine zb_sipush hx hb dX0_lowerSlot_12 (by decide) ?_
    exact aw_iret hx hb hr hlocks dX0_lowerSlot_15 (by first | rfl | omega)
set_option maxHeartbeats 4000000 in
set_option maxRecDepth 100000 in
/-- isOpen(z) -/
theorem k_isOpen {z : Int} (hz : 0 ≤ z ∧ z < 72) : aw_RO l yX0_isOpen wsX0_isOpen (aw_rm 0 0) D (aw_T yZ yI) (aw_W3 yZ yI o oa ba P S K N ty px pr w ch ob g) [.ref o, .int (zI z)] (aw_b (ob z)) := by
  refine Met.ofW (cc := cX0_isOpen) (maxL := 2) (ret := (some .boolean)) (by decide) rfl ?_
  intro p e s m args below meth c s₁ B hml hv
  obtain ⟨rfl, hP, hK⟩ := hv
  have hx := B.exec
  have hb := B.bytes
  have hr := B.returns
  have hts := atoms_spec (ws := wsX0_isOpen) B.pre
  have hown : s.vm.findClass RX0 = some m.cls := findClass_of_methodNamed B.named
  have hlocks := B.notSynchronized
  have hin : ∀ w ∈ wsX00, w ∈ wsX0_isOpen := fun w h => List.mem_cons_of_mem _ (List.mem_append_right _ h)
  have hf_9 := hts (.fieldLink RX0 9 "ArmatureWinding" "open" "[Z") (by decide +kernel)
  have hl := lv_entry ([.ref o, .int (zI z)]) (n := 2) (Nat.le_of_ble_eq_true rfl)
  rw [lg_entry_eq]
  generalize (lg_sl ([.ref o, .int (zI z)]) ++ List.replicate (2 - (lg_sl ([.ref o, .int (zI z)])).length) Slot.unset).toArray = ls at hl ⊢
  have hl : lv_has ls 2 [(0, .ref o), (1, .int (zI z))] := hl
  have hb1 := aw_b_01 (ob z)
  refine lv_iload_n hx hb dX0_isOpen_0 rfl (lv_at hl 1 rfl) ?_
  refine zb_ilt (tgt := 26) hx hb dX0_isOpen_1 (by decide) (by omega) (fun c1 => absurd c1 (by omega)) (fun c1 => ?_)
  refine lv_iload_n hx hb dX0_isOpen_4 rfl (lv_at hl 1 rfl) ?_
  refine lv_aload_n hx hb dX0_isOpen_5 rfl (lv_at hl 0 rfl) ?_
  refine va_get (D := D) (ci := 0) (v := .ref oa) (C := RX0) (T := TX0) (N := 11) hx hb hts hin hown hK hP 0 rfl rfl 9 (by decide) hf_9 (fun _ h9 => h9) rfl dX0_isOpen_6 ?_
  refine va_alen hx hb hK hP 1 0 rfl rfl (v := zI 72) (show Int32.ofNat 72 = zI 72 from by decide) dX0_isOpen_9 ?_
  refine zb_cge (tgt := 26) hx hb dX0_isOpen_10 (by decide) (by omega) (by omega) (fun c10 => absurd c10 (by omega)) (fun c10 => ?_)
  refine lv_aload_n hx hb dX0_isOpen_13 rfl (lv_at hl 0 rfl) ?_
  refine va_get (D := D) (ci := 0) (v := .ref oa) (C := RX0) (T := TX0) (N := 11) hx hb hts hin hown hK hP 0 rfl rfl 9 (by decide) hf_9 (fun _ h9 => h9) rfl dX0_isOpen_14 ?_
  refine lv_iload_n hx hb dX0_isOpen_17 rfl (lv_at hl 1 rfl) ?_
  refine aw_zld hx hb hK hP 1 0 rfl rfl (by omega) (by omega) dX0_isOpen_18 ?_
  refine zb_ieq (tgt := 26) hx hb dX0_isOpen_19 (by decide) (by omega) (fun c19 => ?_) (fun c19 => ?_)
  · skip
    refine zb_iconst hx hb dX0_isOpen_26 ?_
    exact aw_zret hx hb hr hlocks dX0_isOpen_27 (by omega) (by omega)
  · skip
    refine zb_iconst hx hb dX0_isOpen_22 ?_
    refine lv_goto (tgt := 27) hx hb dX0_isOpen_23 (by decide) ?_
    exact aw_zret hx hb hr hlocks dX0_isOpen_27 (by omega) (by omega)
set_option maxHeartbeats 4000000 in
set_option maxRecDepth 100000 in
/-- openMark(z) -/
theorem k_openMark {z : Int} (hz : 0 ≤ z ∧ z < 72) : aw_RO l yX0_openMark wsX0_openMark (aw_rm 1 21) D (aw_T yZ yI) (aw_W3 yZ yI o oa ba P S K N ty px pr w ch ob g) [.ref o, .int (zI z)] (aw_b (ob z)) := by
  refine Met.ofW (cc := cX0_openMark) (maxL := 2) (ret := (some .int)) (by decide) rfl ?_
  intro p e s m args below meth c s₁ B hml hv
  obtain ⟨rfl, hP, hK⟩ := hv
  have hx := B.exec
  have hb := B.bytes
  have hr := B.returns
  have hts := atoms_spec (ws := wsX0_openMark) B.pre
  have hown : s.vm.findClass RX0 = some m.cls := findClass_of_methodNamed B.named
  have hlocks := B.notSynchronized
  have hl := lv_entry ([.ref o, .int (zI z)]) (n := 2) (Nat.le_of_ble_eq_true rfl)
  rw [lg_entry_eq]
  generalize (lg_sl ([.ref o, .int (zI z)]) ++ List.replicate (2 - (lg_sl ([.ref o, .int (zI z)])).length) Slot.unset).toArray = ls at hl ⊢
  have hl : lv_has ls 2 [(0, .ref o), (1, .int (zI z))] := hl
  have hb1 := aw_b_01 (ob z)
  refine lv_aload_n hx hb dX0_openMark_0 rfl (lv_at hl 0 rfl) ?_
  refine lv_iload_n hx hb dX0_openMark_1 rfl (lv_at hl 1 rfl) ?_
  refine aw_callV (As := [.int (zI z)]) (rest := []) ⟨hx, hb, hml, hown, hts⟩ (k_isOpen hz) (cwV 1 hts gX0_openMark_X0_isOpen rfl rfl rfl (by decide +kernel) ⟨Nat.le_of_ble_eq_true rfl, Nat.le_of_ble_eq_true rfl⟩) hP hK rfl rfl rfl hl.1 rfl (Nat.le_of_ble_eq_true rfl) dX0_openMark_2 ⟨Nat.zero_le _, Nat.zero_le _⟩ ?_
  refine zb_ieq (tgt := 12) hx hb dX0_openMark_5 (by decide) (by omega) (fun c5 => ?_) (fun c5 => ?_)
  · skip
    refine zb_iconst hx hb dX0_openMark_12 ?_
    exact aw_iret hx hb hr hlocks dX0_openMark_13 (by first | rfl | omega)
  · skip
    refine zb_iconst hx hb dX0_openMark_8 ?_
    refine lv_goto (tgt := 13) hx hb dX0_openMark_9 (by decide) ?_
    exact aw_iret hx hb hr hlocks dX0_openMark_13 (by first | rfl | omega)
set_option maxHeartbeats 4000000 in
set_option maxRecDepth 100000 in
/-- circuitLength() -/
theorem k_circuitLength (hI : aw_In P S K N w ch) : aw_RO l yX0_circuitLength wsX0_circuitLength (aw_rm 1 22) D (aw_T yZ yI) (aw_W3 yZ yI o oa ba P S K N ty px pr w ch ob g) [.ref o] (aw_ln w N) := by
  refine Met.ofW (cc := cX0_circuitLength) (maxL := 2) (ret := (some .int)) (by decide) rfl ?_
  intro p e s m args below meth c s₁ B hml hv
  obtain ⟨rfl, hP, hK⟩ := hv
  have hx := B.exec
  have hb := B.bytes
  have hr := B.returns
  have hts := atoms_spec (ws := wsX0_circuitLength) B.pre
  have hown : s.vm.findClass RX0 = some m.cls := findClass_of_methodNamed B.named
  have hlocks := B.notSynchronized
  have hin : ∀ w ∈ wsX00, w ∈ wsX0_circuitLength := fun w h => List.mem_cons_of_mem _ (List.mem_append_right _ h)
  have hf_21 := hts (.fieldLink RX0 21 "ArmatureWinding" "coils" "I") (by decide +kernel)
  have hf_37 := hts (.fieldLink RX0 37 "ArmatureWinding" "pitch" "I") (by decide +kernel)
  have hl := lv_entry ([.ref o]) (n := 2) (Nat.le_of_ble_eq_true rfl)
  rw [lg_entry_eq]
  generalize (lg_sl ([.ref o]) ++ List.replicate (2 - (lg_sl ([.ref o])).length) Slot.unset).toArray = ls at hl ⊢
  have hl : lv_has ls 2 [(0, .ref o)] := hl
  obtain ⟨i1, i2, i3, i4, i5, i6, i7, i8, i9, i10, i11, i12, i13⟩ := id hI
  have hL := aw_ln_in (w := w) (N := N) (by omega)
  have hL0 := aw_ln_0 (w := w) (N := N) (by omega)
  refine zb_iconst hx hb dX0_circuitLength_0 ?_
  refine lv_istore_n (lv' := [(1, .int (zI 1)), (0, .ref o)]) hx hb dX0_circuitLength_1 rfl hl (by decide) rfl (fun ls hl => ?_)
  refine zb_lp1 (nL := 2) (fun j => 1 ≤ j ∧ j ≤ aw_ln w N) (fun j => [(1, .int (zI j)), (0, .ref o)]) (fun j => N - j) 1 (by omega) (lv_sub hl [0, 1] rfl) ?_
  intro j ls hJ2 hl ih2
  have hJ2 : 1 ≤ j ∧ j ≤ aw_ln w N := hJ2
  have hl : lv_has ls 2 [(1, .int (zI j)), (0, .ref o)] := hl
  have hj := aw_mul (x := j) (y := w) (a := 72) (b := 80) (by omega) (by omega) (by omega) (by omega)
  have hjm := aw_mod (x := j * w) (n := N) (by omega)
  refine lv_iload_n hx hb dX0_circuitLength_2 rfl (lv_at hl 0 rfl) ?_
  refine lv_aload_n hx hb dX0_circuitLength_3 rfl (lv_at hl 1 rfl) ?_
  refine va_get (D := D) (ci := 0) (v := .int (zI N)) (C := RX0) (T := TX0) (N := 11) hx hb hts hin hown hK hP 0 rfl rfl 3 (by decide) hf_21 (fun _ h9 => h9) rfl dX0_circuitLength_4 ?_
  refine zb_cge (tgt := 32) hx hb dX0_circuitLength_7 (by decide) (by omega) (by omega) (fun c7 => ?_) (fun c7 => ?_)
  · skip
    refine lv_iload_n hx hb dX0_circuitLength_32 rfl (lv_at hl 0 rfl) ?_
    exact aw_iret hx hb hr hlocks dX0_circuitLength_33 (by omega)
  · skip
    refine lv_iload_n hx hb dX0_circuitLength_10 rfl (lv_at hl 0 rfl) ?_
    refine lv_aload_n hx hb dX0_circuitLength_11 rfl (lv_at hl 1 rfl) ?_
    refine va_get (D := D) (ci := 0) (v := .int (zI w)) (C := RX0) (T := TX0) (N := 11) hx hb hts hin hown hK hP 0 rfl rfl 7 (by decide) hf_37 (fun _ h9 => h9) rfl dX0_circuitLength_12 ?_
    refine zb_mul hx hb dX0_circuitLength_15 ?_
    refine lv_aload_n hx hb dX0_circuitLength_16 rfl (lv_at hl 1 rfl) ?_
    refine va_get (D := D) (ci := 0) (v := .int (zI N)) (C := RX0) (T := TX0) (N := 11) hx hb hts hin hown hK hP 0 rfl rfl 3 (by decide) hf_21 (fun _ h9 => h9) rfl dX0_circuitLength_17 ?_
    refine aw_callS (As := [.int (zI (j * w)), .int (zI N)]) (rest := []) ⟨hx, hb, hml, hown, hts⟩ (k_wrap (x := j * w) (n := N) ⟨by omega, by omega⟩ ⟨by omega, by omega⟩) (va_cwS 2 hts gX0_circuitLength_X0_wrap rfl rfl rfl (by decide +kernel) ⟨Nat.le_of_ble_eq_true rfl, Nat.le_of_ble_eq_true rfl⟩) (hP.sub (ws' := []) [] rfl) (hK.sub (tys' := []) [] rfl) rfl hl.1 rfl (Nat.le_of_ble_eq_true rfl) dX0_circuitLength_20 ⟨Nat.zero_le _, Nat.zero_le _⟩ ?_
    refine zb_ieq (tgt := 32) hx hb dX0_circuitLength_23 (by decide) (by omega) (fun c23 => ?_) (fun c23 => ?_)
    · skip
      refine lv_iload_n hx hb dX0_circuitLength_32 rfl (lv_at hl 0 rfl) ?_
      exact aw_iret hx hb hr hlocks dX0_circuitLength_33 (by rcases Int.lt_or_eq_of_le hJ2.2 with q | q; exact absurd c23 (aw_ln_no (by omega) (by omega) q); exact q)
    · skip
      refine zb_iinc (lv' := [(1, .int (zI (j + 1))), (0, .ref o)]) hx hb dX0_circuitLength_26 hl (k := 0) rfl (by decide) rfl (fun ls hl => ?_)
      refine lv_goto (tgt := 2) hx hb dX0_circuitLength_29 (by decide) ?_
      exact ih2 (j + 1) ls (by have := aw_ln_no (w := w) (N := N) (j := j) (by omega) (by omega); rcases Int.lt_or_eq_of_le hJ2.2 with q | q; exact ⟨by omega, by omega⟩; exact absurd (q ▸ hL0) c23) (by omega) (lv_sub hl [0, 1] rfl)
set_option maxHeartbeats 4000000 in
set_option maxRecDepth 100000 in
/-- circuitCount() -/
theorem k_circuitCount (hI : aw_In P S K N w ch) : aw_RO l yX0_circuitCount wsX0_circuitCount (aw_rm 2 43) D (aw_T yZ yI) (aw_W3 yZ yI o oa ba P S K N ty px pr w ch ob g) [.ref o] (aw_gc w N) := by
  refine Met.ofW (cc := cX0_circuitCount) (maxL := 2) (ret := (some .int)) (by decide) rfl ?_
  intro p e s m args below meth c s₁ B hml hv
  obtain ⟨rfl, hP, hK⟩ := hv
  have hx := B.exec
  have hb := B.bytes
  have hr := B.returns
  have hts := atoms_spec (ws := wsX0_circuitCount) B.pre
  have hown : s.vm.findClass RX0 = some m.cls := findClass_of_methodNamed B.named
  have hlocks := B.notSynchronized
  have hin : ∀ w ∈ wsX00, w ∈ wsX0_circuitCount := fun w h => List.mem_cons_of_mem _ (List.mem_append_right _ h)
  have hf_21 := hts (.fieldLink RX0 21 "ArmatureWinding" "coils" "I") (by decide +kernel)
  have hl := lv_entry ([.ref o]) (n := 2) (Nat.le_of_ble_eq_true rfl)
  rw [lg_entry_eq]
  generalize (lg_sl ([.ref o]) ++ List.replicate (2 - (lg_sl ([.ref o])).length) Slot.unset).toArray = ls at hl ⊢
  have hl : lv_has ls 2 [(0, .ref o)] := hl
  obtain ⟨i1, i2, i3, i4, i5, i6, i7, i8, i9, i10, i11, i12, i13⟩ := id hI
  have hL := aw_ln_in (w := w) (N := N) (by omega)
  refine lv_aload_n hx hb dX0_circuitCount_0 rfl (lv_at hl 0 rfl) ?_
  refine aw_callV (As := []) (rest := []) ⟨hx, hb, hml, hown, hts⟩ (k_circuitLength hI) (cwV 0 hts gX0_circuitCount_X0_circuitLength rfl rfl rfl (by decide +kernel) ⟨Nat.le_of_ble_eq_true rfl, Nat.le_of_ble_eq_true rfl⟩) hP hK rfl rfl rfl hl.1 rfl (Nat.le_of_ble_eq_true rfl) dX0_circuitCount_1 ⟨Nat.zero_le _, Nat.zero_le _⟩ ?_
  refine lv_istore_n (lv' := [(1, .int (zI (aw_ln w N))), (0, .ref o)]) hx hb dX0_circuitCount_4 rfl hl (by decide) rfl (fun ls hl => ?_)
  refine lv_iload_n hx hb dX0_circuitCount_5 rfl (lv_at hl 0 rfl) ?_
  refine zb_ile (tgt := 18) hx hb dX0_circuitCount_6 (by decide) (by omega) (fun c6 => absurd c6 (by omega)) (fun c6 => ?_)
  refine lv_aload_n hx hb dX0_circuitCount_9 rfl (lv_at hl 1 rfl) ?_
  refine va_get (D := D) (ci := 0) (v := .int (zI N)) (C := RX0) (T := TX0) (N := 11) hx hb hts hin hown hK hP 0 rfl rfl 3 (by decide) hf_21 (fun _ h9 => h9) rfl dX0_circuitCount_10 ?_
  refine lv_iload_n hx hb dX0_circuitCount_13 rfl (lv_at hl 0 rfl) ?_
  refine zb_div hx hb dX0_circuitCount_14 (by omega) (by omega) ?_
  refine lv_goto (tgt := 19) hx hb dX0_circuitCount_15 (by decide) ?_
  exact aw_iret hx hb hr hlocks dX0_circuitCount_19 (aw_N_ln (by omega))
set_option maxHeartbeats 4000000 in
set_option maxRecDepth 100000 in
/-- circuitOf(z) -/
theorem k_circuitOf (hI : aw_In P S K N w ch) {z : Int} (hz : 0 ≤ z ∧ z < N) : aw_RO l yX0_circuitOf wsX0_circuitOf (aw_rm 3 64) D (aw_T yZ yI) (aw_W3 yZ yI o oa ba P S K N ty px pr w ch ob g) [.ref o, .int (zI z)] (z % aw_gc w N) := by
  refine Met.ofW (cc := cX0_circuitOf) (maxL := 2) (ret := (some .int)) (by decide) rfl ?_
  intro p e s m args below meth c s₁ B hml hv
  obtain ⟨rfl, hP, hK⟩ := hv
  have hx := B.exec
  have hb := B.bytes
  have hr := B.returns
  have hts := atoms_spec (ws := wsX0_circuitOf) B.pre
  have hown : s.vm.findClass RX0 = some m.cls := findClass_of_methodNamed B.named
  have hlocks := B.notSynchronized
  have hin : ∀ w ∈ wsX00, w ∈ wsX0_circuitOf := fun w h => List.mem_cons_of_mem _ (List.mem_append_right _ h)
  have hf_21 := hts (.fieldLink RX0 21 "ArmatureWinding" "coils" "I") (by decide +kernel)
  have hl := lv_entry ([.ref o, .int (zI z)]) (n := 2) (Nat.le_of_ble_eq_true rfl)
  rw [lg_entry_eq]
  generalize (lg_sl ([.ref o, .int (zI z)]) ++ List.replicate (2 - (lg_sl ([.ref o, .int (zI z)])).length) Slot.unset).toArray = ls at hl ⊢
  have hl : lv_has ls 2 [(0, .ref o), (1, .int (zI z))] := hl
  obtain ⟨i1, i2, i3, i4, i5, i6, i7, i8, i9, i10, i11, i12, i13⟩ := id hI
  have hG := aw_gc_in (w := w) (N := N) (by omega)
  have hL := aw_ln_in (w := w) (N := N) (by omega)
  refine lv_iload_n hx hb dX0_circuitOf_0 rfl (lv_at hl 1 rfl) ?_
  refine zb_ilt (tgt := 12) hx hb dX0_circuitOf_1 (by decide) (by omega) (fun c1 => absurd c1 (by omega)) (fun c1 => ?_)
  refine lv_iload_n hx hb dX0_circuitOf_4 rfl (lv_at hl 1 rfl) ?_
  refine lv_aload_n hx hb dX0_circuitOf_5 rfl (lv_at hl 0 rfl) ?_
  refine va_get (D := D) (ci := 0) (v := .int (zI N)) (C := RX0) (T := TX0) (N := 11) hx hb hts hin hown hK hP 0 rfl rfl 3 (by decide) hf_21 (fun _ h9 => h9) rfl dX0_circuitOf_6 ?_
  refine zb_clt (tgt := 16) hx hb dX0_circuitOf_9 (by decide) (by omega) (by omega) (fun c9 => ?_) (fun c9 => absurd c9 (by omega))
  refine lv_iload_n hx hb dX0_circuitOf_16 rfl (lv_at hl 1 rfl) ?_
  refine lv_aload_n hx hb dX0_circuitOf_17 rfl (lv_at hl 0 rfl) ?_
  refine aw_callV (As := []) (rest := [.int (zI z)]) ⟨hx, hb, hml, hown, hts⟩ (k_circuitCount hI) (cwV 0 hts gX0_circuitOf_X0_circuitCount rfl rfl rfl (by decide +kernel) ⟨Nat.le_of_ble_eq_true rfl, Nat.le_of_ble_eq_true rfl⟩) hP hK rfl rfl rfl hl.1 rfl (Nat.le_of_ble_eq_true rfl) dX0_circuitOf_18 ⟨Nat.zero_le _, Nat.zero_le _⟩ ?_
  refine aw_callS (As := [.int (zI z), .int (zI (aw_gc w N))]) (rest := []) ⟨hx, hb, hml, hown, hts⟩ (k_wrap (x := z) (n := aw_gc w N) ⟨by omega, by omega⟩ ⟨by omega, by omega⟩) (va_cwS 2 hts gX0_circuitOf_X0_wrap rfl rfl rfl (by decide +kernel) ⟨Nat.le_of_ble_eq_true rfl, Nat.le_of_ble_eq_true rfl⟩) (hP.sub (ws' := []) [] rfl) (hK.sub (tys' := []) [] rfl) rfl hl.1 rfl (Nat.le_of_ble_eq_true rfl) dX0_circuitOf_21 ⟨Nat.zero_le _, Nat.zero_le _⟩ ?_
  exact aw_iret hx hb hr hlocks dX0_circuitOf_24 (by first | rfl | omega)
set_option maxHeartbeats 4000000 in
set_option maxRecDepth 100000 in
/-- circuitOf(z), no such coil -/
theorem k_circuitOf_no (hI : aw_In P S K N w ch) {z : Int} (hz : -1000 ≤ z ∧ z ≤ 1000) (hz2 : z < 0 ∨ N ≤ z) : aw_RO l yX0_circuitOf wsX0_circuitOf (aw_rm 3 64) D (aw_T yZ yI) (aw_W3 yZ yI o oa ba P S K N ty px pr w ch ob g) [.ref o, .int (zI z)] (-1002) := by
  refine Met.ofW (cc := cX0_circuitOf) (maxL := 2) (ret := (some .int)) (by decide) rfl ?_
  intro p e s m args below meth c s₁ B hml hv
  obtain ⟨rfl, hP, hK⟩ := hv
  have hx := B.exec
  have hb := B.bytes
  have hr := B.returns
  have hts := atoms_spec (ws := wsX0_circuitOf) B.pre
  have hown : s.vm.findClass RX0 = some m.cls := findClass_of_methodNamed B.named
  have hlocks := B.notSynchronized
  have hin : ∀ w ∈ wsX00, w ∈ wsX0_circuitOf := fun w h => List.mem_cons_of_mem _ (List.mem_append_right _ h)
  have hf_21 := hts (.fieldLink RX0 21 "ArmatureWinding" "coils" "I") (by decide +kernel)
  have hl := lv_entry ([.ref o, .int (zI z)]) (n := 2) (Nat.le_of_ble_eq_true rfl)
  rw [lg_entry_eq]
  generalize (lg_sl ([.ref o, .int (zI z)]) ++ List.replicate (2 - (lg_sl ([.ref o, .int (zI z)])).length) Slot.unset).toArray = ls at hl ⊢
  have hl : lv_has ls 2 [(0, .ref o), (1, .int (zI z))] := hl
  obtain ⟨i1, i2, i3, i4, i5, i6, i7, i8, i9, i10, i11, i12, i13⟩ := id hI
  refine lv_iload_n hx hb dX0_circuitOf_0 rfl (lv_at hl 1 rfl) ?_
  refine zb_ilt (tgt := 12) hx hb dX0_circuitOf_1 (by decide) (by omega) (fun c1 => ?_) (fun c1 => ?_)
  · skip
    refine zb_sipush hx hb dX0_circuitOf_12 (by decide) ?_
    exact aw_iret hx hb hr hlocks dX0_circuitOf_15 (by first | rfl | omega)
  · skip
    refine lv_iload_n hx hb dX0_circuitOf_4 rfl (lv_at hl 1 rfl) ?_
    refine lv_aload_n hx hb dX0_circuitOf_5 rfl (lv_at hl 0 rfl) ?_
    refine va_get (D := D) (ci := 0) (v := .int (zI N)) (C := RX0) (T := TX0) (N := 11) hx hb hts hin hown hK hP 0 rfl rfl 3 (by decide) hf_21 (fun _ h9 => h9) rfl dX0_circuitOf_6 ?_
    refine zb_clt (tgt := 16) hx hb dX0_circuitOf_9 (by decide) (by omega) (by omega) (fun c9 => absurd c9 (by omega)) (fun c9 => ?_)
    refine zb_sipush hx hb dX0_circuitOf_12 (by decide) ?_
    exact aw_iret hx hb hr hlocks dX0_circuitOf_15 (by first | rfl | omega)
set_option maxHeartbeats 4000000 in
set_option maxRecDepth 100000 in
/-- coilAt(q, k) -/
theorem k_coilAt (hI : aw_In P S K N w ch) {q k : Int} (hq : 0 ≤ q ∧ q < aw_gc w N) (hk : 0 ≤ k ∧ k < aw_ln w N) : aw_RO l yX0_coilAt wsX0_coilAt (aw_rm 3 64) D (aw_T yZ yI) (aw_W3 yZ yI o oa ba P S K N ty px pr w ch ob g) [.ref o, .int (zI q), .int (zI k)] ((q + k * w) % N) := by
  refine Met.ofW (cc := cX0_coilAt) (maxL := 3) (ret := (some .int)) (by decide) rfl ?_
  intro p e s m args below meth c s₁ B hml hv
  obtain ⟨rfl, hP, hK⟩ := hv
  have hx := B.exec
  have hb := B.bytes
  have hr := B.returns
  have hts := atoms_spec (ws := wsX0_coilAt) B.pre
  have hown : s.vm.findClass RX0 = some m.cls := findClass_of_methodNamed B.named
  have hlocks := B.notSynchronized
  have hin : ∀ w ∈ wsX00, w ∈ wsX0_coilAt := fun w h => List.mem_cons_of_mem _ (List.mem_append_right _ h)
  have hf_21 := hts (.fieldLink RX0 21 "ArmatureWinding" "coils" "I") (by decide +kernel)
  have hf_37 := hts (.fieldLink RX0 37 "ArmatureWinding" "pitch" "I") (by decide +kernel)
  have hl := lv_entry ([.ref o, .int (zI q), .int (zI k)]) (n := 3) (Nat.le_of_ble_eq_true rfl)
  rw [lg_entry_eq]
  generalize (lg_sl ([.ref o, .int (zI q), .int (zI k)]) ++ List.replicate (3 - (lg_sl ([.ref o, .int (zI q), .int (zI k)])).length) Slot.unset).toArray = ls at hl ⊢
  have hl : lv_has ls 3 [(0, .ref o), (1, .int (zI q)), (2, .int (zI k))] := hl
  obtain ⟨i1, i2, i3, i4, i5, i6, i7, i8, i9, i10, i11, i12, i13⟩ := id hI
  have hG := aw_gc_in (w := w) (N := N) (by omega)
  have hL := aw_ln_in (w := w) (N := N) (by omega)
  have hj := aw_mul (x := k) (y := w) (a := 72) (b := 80) (by omega) (by omega) (by omega) (by omega)
  refine lv_iload_n hx hb dX0_coilAt_0 rfl (lv_at hl 1 rfl) ?_
  refine zb_ilt (tgt := 12) hx hb dX0_coilAt_1 (by decide) (by omega) (fun c1 => absurd c1 (by omega)) (fun c1 => ?_)
  refine lv_iload_n hx hb dX0_coilAt_4 rfl (lv_at hl 1 rfl) ?_
  refine lv_aload_n hx hb dX0_coilAt_5 rfl (lv_at hl 0 rfl) ?_
  refine aw_callV (As := []) (rest := [.int (zI q)]) ⟨hx, hb, hml, hown, hts⟩ (k_circuitCount hI) (cwV 0 hts gX0_coilAt_X0_circuitCount rfl rfl rfl (by decide +kernel) ⟨Nat.le_of_ble_eq_true rfl, Nat.le_of_ble_eq_true rfl⟩) hP hK rfl rfl rfl hl.1 rfl (Nat.le_of_ble_eq_true rfl) dX0_coilAt_6 ⟨Nat.zero_le _, Nat.zero_le _⟩ ?_
  refine zb_clt (tgt := 16) hx hb dX0_coilAt_9 (by decide) (by omega) (by omega) (fun c9 => ?_) (fun c9 => absurd c9 (by omega))
  refine lv_iload_n hx hb dX0_coilAt_16 rfl (lv_at hl 2 rfl) ?_
  refine zb_ilt (tgt := 28) hx hb dX0_coilAt_17 (by decide) (by omega) (fun c17 => absurd c17 (by omega)) (fun c17 => ?_)
  refine lv_iload_n hx hb dX0_coilAt_20 rfl (lv_at hl 2 rfl) ?_
  refine lv_aload_n hx hb dX0_coilAt_21 rfl (lv_at hl 0 rfl) ?_
  refine aw_callV (As := []) (rest := [.int (zI k)]) ⟨hx, hb, hml, hown, hts⟩ (k_circuitLength hI) (cwV 0 hts gX0_coilAt_X0_circuitLength rfl rfl rfl (by decide +kernel) ⟨Nat.le_of_ble_eq_true rfl, Nat.le_of_ble_eq_true rfl⟩) hP hK rfl rfl rfl hl.1 rfl (Nat.le_of_ble_eq_true rfl) dX0_coilAt_22 ⟨Nat.zero_le _, Nat.zero_le _⟩ ?_
  refine zb_clt (tgt := 32) hx hb dX0_coilAt_25 (by decide) (by omega) (by omega) (fun c25 => ?_) (fun c25 => absurd c25 (by omega))
  refine lv_iload_n hx hb dX0_coilAt_32 rfl (lv_at hl 1 rfl) ?_
  refine lv_iload_n hx hb dX0_coilAt_33 rfl (lv_at hl 2 rfl) ?_
  refine lv_aload_n hx hb dX0_coilAt_34 rfl (lv_at hl 0 rfl) ?_
  refine va_get (D := D) (ci := 0) (v := .int (zI w)) (C := RX0) (T := TX0) (N := 11) hx hb hts hin hown hK hP 0 rfl rfl 7 (by decide) hf_37 (fun _ h9 => h9) rfl dX0_coilAt_35 ?_
  refine zb_mul hx hb dX0_coilAt_38 ?_
  refine zb_add hx hb dX0_coilAt_39 ?_
  refine lv_aload_n hx hb dX0_coilAt_40 rfl (lv_at hl 0 rfl) ?_
  refine va_get (D := D) (ci := 0) (v := .int (zI N)) (C := RX0) (T := TX0) (N := 11) hx hb hts hin hown hK hP 0 rfl rfl 3 (by decide) hf_21 (fun _ h9 => h9) rfl dX0_coilAt_41 ?_
  refine aw_callS (As := [.int (zI (q + (k * w))), .int (zI N)]) (rest := []) ⟨hx, hb, hml, hown, hts⟩ (k_wrap (x := q + k * w) (n := N) ⟨by omega, by omega⟩ ⟨by omega, by omega⟩) (va_cwS 2 hts gX0_coilAt_X0_wrap rfl rfl rfl (by decide +kernel) ⟨Nat.le_of_ble_eq_true rfl, Nat.le_of_ble_eq_true rfl⟩) (hP.sub (ws' := []) [] rfl) (hK.sub (tys' := []) [] rfl) rfl hl.1 rfl (Nat.le_of_ble_eq_true rfl) dX0_coilAt_44 ⟨Nat.zero_le _, Nat.zero_le _⟩ ?_
  exact aw_iret hx hb hr hlocks dX0_coilAt_47 (by first | rfl | omega)
set_option maxHeartbeats 4000000 in
set_option maxRecDepth 100000 in
/-- coilAt(q, k), no such place -/
theorem k_coilAt_none (hI : aw_In P S K N w ch) {q k : Int} (hq : 0 ≤ q ∧ q < aw_gc w N) (hk : -1000 ≤ k ∧ k ≤ 1000) (hk2 : k < 0 ∨ aw_ln w N ≤ k) : aw_RO l yX0_coilAt wsX0_coilAt (aw_rm 3 64) D (aw_T yZ yI) (aw_W3 yZ yI o oa ba P S K N ty px pr w ch ob g) [.ref o, .int (zI q), .int (zI k)] (-1004) := by
  refine Met.ofW (cc := cX0_coilAt) (maxL := 3) (ret := (some .int)) (by decide) rfl ?_
  intro p e s m args below meth c s₁ B hml hv
  obtain ⟨rfl, hP, hK⟩ := hv
  have hx := B.exec
  have hb := B.bytes
  have hr := B.returns
  have hts := atoms_spec (ws := wsX0_coilAt) B.pre
  have hown : s.vm.findClass RX0 = some m.cls := findClass_of_methodNamed B.named
  have hlocks := B.notSynchronized
  have hin : ∀ w ∈ wsX00, w ∈ wsX0_coilAt := fun w h => List.mem_cons_of_mem _ (List.mem_append_right _ h)
  have hf_21 := hts (.fieldLink RX0 21 "ArmatureWinding" "coils" "I") (by decide +kernel)
  have hf_37 := hts (.fieldLink RX0 37 "ArmatureWinding" "pitch" "I") (by decide +kernel)
  have hl := lv_entry ([.ref o, .int (zI q), .int (zI k)]) (n := 3) (Nat.le_of_ble_eq_true rfl)
  rw [lg_entry_eq]
  generalize (lg_sl ([.ref o, .int (zI q), .int (zI k)]) ++ List.replicate (3 - (lg_sl ([.ref o, .int (zI q), .int (zI k)])).length) Slot.unset).toArray = ls at hl ⊢
  have hl : lv_has ls 3 [(0, .ref o), (1, .int (zI q)), (2, .int (zI k))] := hl
  obtain ⟨i1, i2, i3, i4, i5, i6, i7, i8, i9, i10, i11, i12, i13⟩ := id hI
  have hG := aw_gc_in (w := w) (N := N) (by omega)
  have hL := aw_ln_in (w := w) (N := N) (by omega)
  refine lv_iload_n hx hb dX0_coilAt_0 rfl (lv_at hl 1 rfl) ?_
  refine zb_ilt (tgt := 12) hx hb dX0_coilAt_1 (by decide) (by omega) (fun c1 => absurd c1 (by omega)) (fun c1 => ?_)
  refine lv_iload_n hx hb dX0_coilAt_4 rfl (lv_at hl 1 rfl) ?_
  refine lv_aload_n hx hb dX0_coilAt_5 rfl (lv_at hl 0 rfl) ?_
  refine aw_callV (As := []) (rest := [.int (zI q)]) ⟨hx, hb, hml, hown, hts⟩ (k_circuitCount hI) (cwV 0 hts gX0_coilAt_X0_circuitCount rfl rfl rfl (by decide +kernel) ⟨Nat.le_of_ble_eq_true rfl, Nat.le_of_ble_eq_true rfl⟩) hP hK rfl rfl rfl hl.1 rfl (Nat.le_of_ble_eq_true rfl) dX0_coilAt_6 ⟨Nat.zero_le _, Nat.zero_le _⟩ ?_
  refine zb_clt (tgt := 16) hx hb dX0_coilAt_9 (by decide) (by omega) (by omega) (fun c9 => ?_) (fun c9 => absurd c9 (by omega))
  refine lv_iload_n hx hb dX0_coilAt_16 rfl (lv_at hl 2 rfl) ?_
  refine zb_ilt (tgt := 28) hx hb dX0_coilAt_17 (by decide) (by omega) (fun c17 => ?_) (fun c17 => ?_)
  · skip
    refine zb_sipush hx hb dX0_coilAt_28 (by decide) ?_
    exact aw_iret hx hb hr hlocks dX0_coilAt_31 (by first | rfl | omega)
  · skip
    refine lv_iload_n hx hb dX0_coilAt_20 rfl (lv_at hl 2 rfl) ?_
    refine lv_aload_n hx hb dX0_coilAt_21 rfl (lv_at hl 0 rfl) ?_
    refine aw_callV (As := []) (rest := [.int (zI k)]) ⟨hx, hb, hml, hown, hts⟩ (k_circuitLength hI) (cwV 0 hts gX0_coilAt_X0_circuitLength rfl rfl rfl (by decide +kernel) ⟨Nat.le_of_ble_eq_true rfl, Nat.le_of_ble_eq_true rfl⟩) hP hK rfl rfl rfl hl.1 rfl (Nat.le_of_ble_eq_true rfl) dX0_coilAt_22 ⟨Nat.zero_le _, Nat.zero_le _⟩ ?_
    refine zb_clt (tgt := 32) hx hb dX0_coilAt_25 (by decide) (by omega) (by omega) (fun c25 => absurd c25 (by omega)) (fun c25 => ?_)
    refine zb_sipush hx hb dX0_coilAt_28 (by decide) ?_
    exact aw_iret hx hb hr hlocks dX0_coilAt_31 (by first | rfl | omega)
set_option maxHeartbeats 4000000 in
set_option maxRecDepth 100000 in
/-- coilAt(q, k), no such circuit -/
theorem k_coilAt_no (hI : aw_In P S K N w ch) {q k : Int} (hq : -1000 ≤ q ∧ q ≤ 1000) (hq2 : q < 0 ∨ aw_gc w N ≤ q) : aw_RO l yX0_coilAt wsX0_coilAt (aw_rm 3 64) D (aw_T yZ yI) (aw_W3 yZ yI o oa ba P S K N ty px pr w ch ob g) [.ref o, .int (zI q), .int (zI k)] (-1002) := by
  refine Met.ofW (cc := cX0_coilAt) (maxL := 3) (ret := (some .int)) (by decide) rfl ?_
  intro p e s m args below meth c s₁ B hml hv
  obtain ⟨rfl, hP, hK⟩ := hv
  have hx := B.exec
  have hb := B.bytes
  have hr := B.returns
  have hts := atoms_spec (ws := wsX0_coilAt) B.pre
  have hown : s.vm.findClass RX0 = some m.cls := findClass_of_methodNamed B.named
  have hlocks := B.notSynchronized
  have hin : ∀ w ∈ wsX00, w ∈ wsX0_coilAt := fun w h => List.mem_cons_of_mem _ (List.mem_append_right _ h)
  have hf_21 := hts (.fieldLink RX0 21 "ArmatureWinding" "coils" "I") (by decide +kernel)
  have hf_37 := hts (.fieldLink RX0 37 "ArmatureWinding" "pitch" "I") (by decide +kernel)
  have hl := lv_entry ([.ref o, .int (zI q), .int (zI k)]) (n := 3) (Nat.le_of_ble_eq_true rfl)
  rw [lg_entry_eq]
  generalize (lg_sl ([.ref o, .int (zI q), .int (zI k)]) ++ List.replicate (3 - (lg_sl ([.ref o, .int (zI q), .int (zI k)])).length) Slot.unset).toArray = ls at hl ⊢
  have hl : lv_has ls 3 [(0, .ref o), (1, .int (zI q)), (2, .int (zI k))] := hl
  obtain ⟨i1, i2, i3, i4, i5, i6, i7, i8, i9, i10, i11, i12, i13⟩ := id hI
  have hG := aw_gc_in (w := w) (N := N) (by omega)
  have hL := aw_ln_in (w := w) (N := N) (by omega)
  refine lv_iload_n hx hb dX0_coilAt_0 rfl (lv_at hl 1 rfl) ?_
  refine zb_ilt (tgt := 12) hx hb dX0_coilAt_1 (by decide) (by omega) (fun c1 => ?_) (fun c1 => ?_)
  · skip
    refine zb_sipush hx hb dX0_coilAt_12 (by decide) ?_
    exact aw_iret hx hb hr hlocks dX0_coilAt_15 (by first | rfl | omega)
  · skip
    refine lv_iload_n hx hb dX0_coilAt_4 rfl (lv_at hl 1 rfl) ?_
    refine lv_aload_n hx hb dX0_coilAt_5 rfl (lv_at hl 0 rfl) ?_
    refine aw_callV (As := []) (rest := [.int (zI q)]) ⟨hx, hb, hml, hown, hts⟩ (k_circuitCount hI) (cwV 0 hts gX0_coilAt_X0_circuitCount rfl rfl rfl (by decide +kernel) ⟨Nat.le_of_ble_eq_true rfl, Nat.le_of_ble_eq_true rfl⟩) hP hK rfl rfl rfl hl.1 rfl (Nat.le_of_ble_eq_true rfl) dX0_coilAt_6 ⟨Nat.zero_le _, Nat.zero_le _⟩ ?_
    refine zb_clt (tgt := 16) hx hb dX0_coilAt_9 (by decide) (by omega) (by omega) (fun c9 => absurd c9 (by omega)) (fun c9 => ?_)
    refine zb_sipush hx hb dX0_coilAt_12 (by decide) ?_
    exact aw_iret hx hb hr hlocks dX0_coilAt_15 (by first | rfl | omega)
end
