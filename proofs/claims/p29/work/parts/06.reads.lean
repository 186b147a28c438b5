section
variable {l : Launch} {D : va_G} {yZ yI : ClassId} {o oa ba da pa : Nat} {P S K N w ch : Int} {ty px pr : Int32} {ob : Int → Bool} {g pf : Nat → Int32} {dv : Nat → Int}
set_option maxHeartbeats 4000000 in
set_option maxRecDepth 100000 in
/-- isClosed(q) -/
theorem k_isClosed (hI : aw_In P S K N w ch) {q : Int} (hq : 0 ≤ q ∧ q < aw_gc w N) : aw_RO l yX0_isClosed wsX0_isClosed (aw_rm 2 43) D (aw_T yZ yI) (aw_W3 yZ yI o oa ba P S K N ty px pr w ch ob g) [.ref o, .int (zI q)] (aw_b (aw_cl w N ob q)) := by
  refine Met.ofW (cc := cX0_isClosed) (maxL := 4) (ret := (some .boolean)) (by decide) rfl ?_
  intro p e s m args below meth c s₁ B hml hv
  obtain ⟨rfl, hP, hK⟩ := hv
  have hx := B.exec
  have hb := B.bytes
  have hr := B.returns
  have hts := atoms_spec (ws := wsX0_isClosed) B.pre
  have hown : s.vm.findClass RX0 = some m.cls := findClass_of_methodNamed B.named
  have hlocks := B.notSynchronized
  have hin : ∀ w ∈ wsX00, w ∈ wsX0_isClosed := fun w h => List.mem_cons_of_mem _ (List.mem_append_right _ h)
  have hf_21 := hts (.fieldLink RX0 21 "ArmatureWinding" "coils" "I") (by decide +kernel)
  have hf_37 := hts (.fieldLink RX0 37 "ArmatureWinding" "pitch" "I") (by decide +kernel)
  have hl := lv_entry ([.ref o, .int (zI q)]) (n := 4) (Nat.le_of_ble_eq_true rfl)
  rw [lg_entry_eq]
  generalize (lg_sl ([.ref o, .int (zI q)]) ++ List.replicate (4 - (lg_sl ([.ref o, .int (zI q)])).length) Slot.unset).toArray = ls at hl ⊢
  have hl : lv_has ls 4 [(0, .ref o), (1, .int (zI q))] := hl
  obtain ⟨i1, i2, i3, i4, i5, i6, i7, i8, i9, i10, i11, i12, i13⟩ := id hI
  have hG := aw_gc_in (w := w) (N := N) (by omega)
  have hL := aw_ln_in (w := w) (N := N) (by omega)
  refine lv_aload_n hx hb dX0_isClosed_0 rfl (lv_at hl 0 rfl) ?_
  refine aw_callV (As := []) (rest := []) ⟨hx, hb, hml, hown, hts⟩ (k_circuitLength hI) (cwV 0 hts gX0_isClosed_X0_circuitLength rfl rfl rfl (by decide +kernel) ⟨Nat.le_of_ble_eq_true rfl, Nat.le_of_ble_eq_true rfl⟩) hP hK rfl rfl rfl hl.1 rfl (Nat.le_of_ble_eq_true rfl) dX0_isClosed_1 ⟨Nat.zero_le _, Nat.zero_le _⟩ ?_
  refine lv_istore_n (lv' := [(2, .int (zI (aw_ln w N))), (0, .ref o), (1, .int (zI q))]) hx hb dX0_isClosed_4 rfl hl (by decide) rfl (fun ls hl => ?_)
  refine zb_iconst hx hb dX0_isClosed_5 ?_
  refine lv_istore_n (lv' := [(3, .int (zI 0)), (2, .int (zI (aw_ln w N))), (0, .ref o), (1, .int (zI q))]) hx hb dX0_isClosed_6 rfl hl (by decide) rfl (fun ls hl => ?_)
  refine zb_lp1 (nL := 4) (fun j => 0 ≤ j ∧ j ≤ aw_ln w N ∧ aw_al (aw_ci w N ob q) j = true) (fun j => [(3, .int (zI j)), (2, .int (zI (aw_ln w N))), (1, .int (zI q)), (0, .ref o)]) (fun j => aw_ln w N - j) 0 ⟨by omega, by omega, aw_al_0 _⟩ (lv_sub hl [0, 1, 3, 2] rfl) ?_
  intro j ls hJ7 hl ih7
  have hJ7 : 0 ≤ j ∧ j ≤ aw_ln w N ∧ aw_al (aw_ci w N ob q) j = true := hJ7
  have hl : lv_has ls 4 [(3, .int (zI j)), (2, .int (zI (aw_ln w N))), (1, .int (zI q)), (0, .ref o)] := hl
  have hj := aw_mul (x := j) (y := w) (a := 72) (b := 80) (by omega) (by omega) (by omega) (by omega)
  have hjm := aw_mod (x := q + j * w) (n := N) (by omega)
  have hb1 := aw_b_01 (ob ((q + j * w) % N))
  refine lv_iload_n hx hb dX0_isClosed_7 rfl (lv_at hl 0 rfl) ?_
  refine lv_iload_n hx hb dX0_isClosed_8 rfl (lv_at hl 1 rfl) ?_
  refine zb_cge (tgt := 42) hx hb dX0_isClosed_9 (by decide) (by omega) (by omega) (fun c9 => ?_) (fun c9 => ?_)
  · skip
    refine zb_iconst hx hb dX0_isClosed_42 ?_
    exact aw_zret hx hb hr hlocks dX0_isClosed_43 (by omega) (have e : j = aw_ln w N := (by omega); by unfold aw_cl; rw [← e, hJ7.2.2]; rfl)
  · skip
    refine lv_aload_n hx hb dX0_isClosed_12 rfl (lv_at hl 3 rfl) ?_
    refine lv_iload_n hx hb dX0_isClosed_13 rfl (lv_at hl 2 rfl) ?_
    refine lv_iload_n hx hb dX0_isClosed_14 rfl (lv_at hl 0 rfl) ?_
    refine lv_aload_n hx hb dX0_isClosed_15 rfl (lv_at hl 3 rfl) ?_
    refine va_get (D := D) (ci := 0) (v := .int (zI w)) (C := RX0) (T := TX0) (N := 11) hx hb hts hin hown hK hP 0 rfl rfl 7 (by decide) hf_37 (fun _ h9 => h9) rfl dX0_isClosed_16 ?_
    refine zb_mul hx hb dX0_isClosed_19 ?_
    refine zb_add hx hb dX0_isClosed_20 ?_
    refine lv_aload_n hx hb dX0_isClosed_21 rfl (lv_at hl 3 rfl) ?_
    refine va_get (D := D) (ci := 0) (v := .int (zI N)) (C := RX0) (T := TX0) (N := 11) hx hb hts hin hown hK hP 0 rfl rfl 3 (by decide) hf_21 (fun _ h9 => h9) rfl dX0_isClosed_22 ?_
    refine aw_callS (As := [.int (zI (q + (j * w))), .int (zI N)]) (rest := [.ref o]) ⟨hx, hb, hml, hown, hts⟩ (k_wrap (x := q + j * w) (n := N) ⟨by omega, by omega⟩ ⟨by omega, by omega⟩) (va_cwS 2 hts gX0_isClosed_X0_wrap rfl rfl rfl (by decide +kernel) ⟨Nat.le_of_ble_eq_true rfl, Nat.le_of_ble_eq_true rfl⟩) (hP.sub (ws' := []) [] rfl) (hK.sub (tys' := []) [] rfl) rfl hl.1 rfl (Nat.le_of_ble_eq_true rfl) dX0_isClosed_25 ⟨Nat.zero_le _, Nat.zero_le _⟩ ?_
    refine aw_callV (As := [.int (zI ((q + j * w) % N))]) (rest := []) ⟨hx, hb, hml, hown, hts⟩ (k_isOpen (z := (q + j * w) % N) ⟨by omega, by omega⟩) (cwV 1 hts gX0_isClosed_X0_isOpen rfl rfl rfl (by decide +kernel) ⟨Nat.le_of_ble_eq_true rfl, Nat.le_of_ble_eq_true rfl⟩) hP hK rfl rfl rfl hl.1 rfl (Nat.le_of_ble_eq_true rfl) dX0_isClosed_28 ⟨Nat.zero_le _, Nat.zero_le _⟩ ?_
    refine zb_ieq (tgt := 36) hx hb dX0_isClosed_31 (by decide) (by omega) (fun c31 => ?_) (fun c31 => ?_)
    · skip
      refine zb_iinc (lv' := [(3, .int (zI (j + 1))), (2, .int (zI (aw_ln w N))), (1, .int (zI q)), (0, .ref o)]) hx hb dX0_isClosed_36 hl (k := 0) rfl (by decide) rfl (fun ls hl => ?_)
      refine lv_goto (tgt := 7) hx hb dX0_isClosed_39 (by decide) ?_
      exact ih7 (j + 1) ls ⟨by omega, by omega, by rw [aw_al_s _ hJ7.1, hJ7.2.2, Bool.true_and]; unfold aw_ci; rw [aw_b_eq0.mp c31]; rfl⟩ (by omega) (lv_sub hl [0, 1, 2, 3] rfl)
    · skip
      refine zb_iconst hx hb dX0_isClosed_34 ?_
      exact aw_zret hx hb hr hlocks dX0_isClosed_35 (by omega) (by unfold aw_cl; rw [aw_al_f _ (k := j) hJ7.1 (by omega) (by unfold aw_ci; rw [aw_b_ne0.mp c31]; rfl)]; rfl)
set_option maxHeartbeats 4000000 in
set_option maxRecDepth 100000 in
/-- closedCircuits() -/
theorem k_closedCircuits (hI : aw_In P S K N w ch) : aw_RO l yX0_closedCircuits wsX0_closedCircuits (aw_rm 3 66) D (aw_T yZ yI) (aw_W3 yZ yI o oa ba P S K N ty px pr w ch ob g) [.ref o] (aw_cn (aw_cl w N ob) (aw_gc w N)) := by
  refine Met.ofW (cc := cX0_closedCircuits) (maxL := 4) (ret := (some .int)) (by decide) rfl ?_
  intro p e s m args below meth c s₁ B hml hv
  obtain ⟨rfl, hP, hK⟩ := hv
  have hx := B.exec
  have hb := B.bytes
  have hr := B.returns
  have hts := atoms_spec (ws := wsX0_closedCircuits) B.pre
  have hown : s.vm.findClass RX0 = some m.cls := findClass_of_methodNamed B.named
  have hlocks := B.notSynchronized
  have hl := lv_entry ([.ref o]) (n := 4) (Nat.le_of_ble_eq_true rfl)
  rw [lg_entry_eq]
  generalize (lg_sl ([.ref o]) ++ List.replicate (4 - (lg_sl ([.ref o])).length) Slot.unset).toArray = ls at hl ⊢
  have hl : lv_has ls 4 [(0, .ref o)] := hl
  obtain ⟨i1, i2, i3, i4, i5, i6, i7, i8, i9, i10, i11, i12, i13⟩ := id hI
  have hG := aw_gc_in (w := w) (N := N) (by omega)
  have hL := aw_ln_in (w := w) (N := N) (by omega)
  refine lv_aload_n hx hb dX0_closedCircuits_0 rfl (lv_at hl 0 rfl) ?_
  refine aw_callV (As := []) (rest := []) ⟨hx, hb, hml, hown, hts⟩ (k_circuitCount hI) (cwV 0 hts gX0_closedCircuits_X0_circuitCount rfl rfl rfl (by decide +kernel) ⟨Nat.le_of_ble_eq_true rfl, Nat.le_of_ble_eq_true rfl⟩) hP hK rfl rfl rfl hl.1 rfl (Nat.le_of_ble_eq_true rfl) dX0_closedCircuits_1 ⟨Nat.zero_le _, Nat.zero_le _⟩ ?_
  refine lv_istore_n (lv' := [(1, .int (zI (aw_gc w N))), (0, .ref o)]) hx hb dX0_closedCircuits_4 rfl hl (by decide) rfl (fun ls hl => ?_)
  refine zb_iconst hx hb dX0_closedCircuits_5 ?_
  refine lv_istore_n (lv' := [(2, .int (zI 0)), (1, .int (zI (aw_gc w N))), (0, .ref o)]) hx hb dX0_closedCircuits_6 rfl hl (by decide) rfl (fun ls hl => ?_)
  refine zb_iconst hx hb dX0_closedCircuits_7 ?_
  refine lv_istore_n (lv' := [(3, .int (zI 0)), (2, .int (zI 0)), (1, .int (zI (aw_gc w N))), (0, .ref o)]) hx hb dX0_closedCircuits_8 rfl hl (by decide) rfl (fun ls hl => ?_)
  refine zb_lp2 (nL := 4) (fun n q => 0 ≤ q ∧ q ≤ aw_gc w N ∧ n = aw_cn (aw_cl w N ob) q) (fun n q => [(3, .int (zI q)), (2, .int (zI n)), (1, .int (zI (aw_gc w N))), (0, .ref o)]) (fun n q => aw_gc w N - q) 0 0 ⟨by omega, by omega, (aw_cn_0 _).symm⟩ (lv_sub hl [0, 1, 2, 3] rfl) ?_
  intro n q ls hJ9 hl ih9
  have hJ9 : 0 ≤ q ∧ q ≤ aw_gc w N ∧ n = aw_cn (aw_cl w N ob) q := hJ9
  have hl : lv_has ls 4 [(3, .int (zI q)), (2, .int (zI n)), (1, .int (zI (aw_gc w N))), (0, .ref o)] := hl
  have hb1 := aw_b_01 (aw_cl w N ob q)
  refine lv_iload_n hx hb dX0_closedCircuits_9 rfl (lv_at hl 0 rfl) ?_
  refine lv_iload_n hx hb dX0_closedCircuits_10 rfl (lv_at hl 2 rfl) ?_
  refine zb_cge (tgt := 31) hx hb dX0_closedCircuits_11 (by decide) (by omega) (by omega) (fun c11 => ?_) (fun c11 => ?_)
  · skip
    refine lv_iload_n hx hb dX0_closedCircuits_31 rfl (lv_at hl 1 rfl) ?_
    exact aw_iret hx hb hr hlocks dX0_closedCircuits_32 (have e : q = aw_gc w N := (by omega); by rw [hJ9.2.2, e])
  · skip
    refine lv_aload_n hx hb dX0_closedCircuits_14 rfl (lv_at hl 3 rfl) ?_
    refine lv_iload_n hx hb dX0_closedCircuits_15 rfl (lv_at hl 0 rfl) ?_
    refine aw_callV (As := [.int (zI q)]) (rest := []) ⟨hx, hb, hml, hown, hts⟩ (k_isClosed (q := q) hI ⟨by omega, by omega⟩) (cwV 1 hts gX0_closedCircuits_X0_isClosed rfl rfl rfl (by decide +kernel) ⟨Nat.le_of_ble_eq_true rfl, Nat.le_of_ble_eq_true rfl⟩) hP hK rfl rfl rfl hl.1 rfl (Nat.le_of_ble_eq_true rfl) dX0_closedCircuits_16 ⟨Nat.zero_le _, Nat.zero_le _⟩ ?_
    refine zb_ieq (tgt := 25) hx hb dX0_closedCircuits_19 (by decide) (by omega) (fun c19 => ?_) (fun c19 => ?_)
    · skip
      refine zb_iinc (lv' := [(3, .int (zI (q + 1))), (2, .int (zI n)), (1, .int (zI (aw_gc w N))), (0, .ref o)]) hx hb dX0_closedCircuits_25 hl (k := 0) rfl (by decide) rfl (fun ls hl => ?_)
      refine lv_goto (tgt := 9) hx hb dX0_closedCircuits_28 (by decide) ?_
      exact ih9 n (q + 1) ls ⟨by omega, by omega, by rw [aw_cn_s _ hJ9.1, aw_b_f (aw_b_eq0.mp c19), hJ9.2.2, Int.add_zero]⟩ (by omega) (lv_sub hl [0, 1, 2, 3] rfl)
    · skip
      refine zb_iinc (lv' := [(2, .int (zI (n + 1))), (3, .int (zI q)), (1, .int (zI (aw_gc w N))), (0, .ref o)]) hx hb dX0_closedCircuits_22 hl (k := 1) rfl (by decide) rfl (fun ls hl => ?_)
      refine zb_iinc (lv' := [(3, .int (zI (q + 1))), (2, .int (zI (n + 1))), (1, .int (zI (aw_gc w N))), (0, .ref o)]) hx hb dX0_closedCircuits_25 hl (k := 1) rfl (by decide) rfl (fun ls hl => ?_)
      refine lv_goto (tgt := 9) hx hb dX0_closedCircuits_28 (by decide) ?_
      exact ih9 (n + 1) (q + 1) ls ⟨by omega, by omega, by rw [aw_cn_s _ hJ9.1, aw_b_t (aw_b_ne0.mp c19), hJ9.2.2]⟩ (by omega) (lv_sub hl [0, 1, 2, 3] rfl)
set_option maxHeartbeats 4000000 in
set_option maxRecDepth 100000 in
/-- sideVoltage(a, t) -/
theorem k_sideVoltage (hI : aw_In P S K N w ch) {a t : Int} (ha : 0 ≤ a ∧ a ≤ 100) (ht : 0 ≤ t ∧ t ≤ 200) : aw_RO l yX0_sideVoltage wsX0_sideVoltage (aw_rm 1 22) D (aw_T yZ yI) (aw_W3 yZ yI o oa ba P S K N ty px pr w ch ob g) [.ref o, .int (zI a), .int (zI t)] (aw_sd P S a t) := by
  refine Met.ofW (cc := cX0_sideVoltage) (maxL := 4) (ret := (some .int)) (by decide) rfl ?_
  intro p e s m args below meth c s₁ B hml hv
  obtain ⟨rfl, hP, hK⟩ := hv
  have hx := B.exec
  have hb := B.bytes
  have hr := B.returns
  have hts := atoms_spec (ws := wsX0_sideVoltage) B.pre
  have hown : s.vm.findClass RX0 = some m.cls := findClass_of_methodNamed B.named
  have hlocks := B.notSynchronized
  have hin : ∀ w ∈ wsX00, w ∈ wsX0_sideVoltage := fun w h => List.mem_cons_of_mem _ (List.mem_append_right _ h)
  have hf_46 := hts (.fieldLink RX0 46 "ArmatureWinding" "poles" "I") (by decide +kernel)
  have hf_49 := hts (.fieldLink RX0 49 "ArmatureWinding" "slots" "I") (by decide +kernel)
  have hl := lv_entry ([.ref o, .int (zI a), .int (zI t)]) (n := 4) (Nat.le_of_ble_eq_true rfl)
  rw [lg_entry_eq]
  generalize (lg_sl ([.ref o, .int (zI a), .int (zI t)]) ++ List.replicate (4 - (lg_sl ([.ref o, .int (zI a), .int (zI t)])).length) Slot.unset).toArray = ls at hl ⊢
  have hl : lv_has ls 4 [(0, .ref o), (1, .int (zI a)), (2, .int (zI t))] := hl
  obtain ⟨i1, i2, i3, i4, i5, i6, i7, i8, i9, i10, i11, i12, i13⟩ := id hI
  have hm := aw_mod (x := a + t) (n := S) (by omega)
  have hj := aw_mul (x := (a + t) % S) (y := P) (a := 24) (b := 8) (by omega) (by omega) (by omega) (by omega)
  have hj0 : 0 ≤ (a + t) % S * P := Int.mul_nonneg (by omega) (by omega)
  have hd := aw_div (x := (a + t) % S * P) (n := S) (by omega) (by omega)
  refine lv_aload_n hx hb dX0_sideVoltage_0 rfl (lv_at hl 0 rfl) ?_
  refine va_get (D := D) (ci := 0) (v := .int (zI S)) (C := RX0) (T := TX0) (N := 11) hx hb hts hin hown hK hP 0 rfl rfl 1 (by decide) hf_49 (fun _ h9 => h9) rfl dX0_sideVoltage_1 ?_
  refine zb_ile (tgt := 30) hx hb dX0_sideVoltage_4 (by decide) (by omega) (fun c4 => absurd c4 (by omega)) (fun c4 => ?_)
  refine lv_iload_n hx hb dX0_sideVoltage_7 rfl (lv_at hl 1 rfl) ?_
  refine lv_iload_n hx hb dX0_sideVoltage_8 rfl (lv_at hl 2 rfl) ?_
  refine zb_add hx hb dX0_sideVoltage_9 ?_
  refine lv_aload_n hx hb dX0_sideVoltage_10 rfl (lv_at hl 0 rfl) ?_
  refine va_get (D := D) (ci := 0) (v := .int (zI S)) (C := RX0) (T := TX0) (N := 11) hx hb hts hin hown hK hP 0 rfl rfl 1 (by decide) hf_49 (fun _ h9 => h9) rfl dX0_sideVoltage_11 ?_
  refine aw_callS (As := [.int (zI (a + t)), .int (zI S)]) (rest := []) ⟨hx, hb, hml, hown, hts⟩ (k_wrap (x := a + t) (n := S) ⟨by omega, by omega⟩ ⟨by omega, by omega⟩) (va_cwS 2 hts gX0_sideVoltage_X0_wrap rfl rfl rfl (by decide +kernel) ⟨Nat.le_of_ble_eq_true rfl, Nat.le_of_ble_eq_true rfl⟩) (hP.sub (ws' := []) [] rfl) (hK.sub (tys' := []) [] rfl) rfl hl.1 rfl (Nat.le_of_ble_eq_true rfl) dX0_sideVoltage_14 ⟨Nat.zero_le _, Nat.zero_le _⟩ ?_
  refine lv_aload_n hx hb dX0_sideVoltage_17 rfl (lv_at hl 0 rfl) ?_
  refine va_get (D := D) (ci := 0) (v := .int (zI P)) (C := RX0) (T := TX0) (N := 11) hx hb hts hin hown hK hP 0 rfl rfl 0 (by decide) hf_46 (fun _ h9 => h9) rfl dX0_sideVoltage_18 ?_
  refine zb_mul hx hb dX0_sideVoltage_21 ?_
  refine lv_aload_n hx hb dX0_sideVoltage_22 rfl (lv_at hl 0 rfl) ?_
  refine va_get (D := D) (ci := 0) (v := .int (zI S)) (C := RX0) (T := TX0) (N := 11) hx hb hts hin hown hK hP 0 rfl rfl 1 (by decide) hf_49 (fun _ h9 => h9) rfl dX0_sideVoltage_23 ?_
  refine zb_div hx hb dX0_sideVoltage_26 (by omega) (by omega) ?_
  refine lv_goto (tgt := 31) hx hb dX0_sideVoltage_27 (by decide) ?_
  refine lv_istore_n (lv' := [(3, .int (zI ((((a + t) % S) * P) / S))), (0, .ref o), (1, .int (zI a)), (2, .int (zI t))]) hx hb dX0_sideVoltage_31 rfl hl (by decide) rfl (fun ls hl => ?_)
  refine lv_iload_n hx hb dX0_sideVoltage_32 rfl (lv_at hl 0 rfl) ?_
  refine zb_iconst hx hb dX0_sideVoltage_33 ?_
  refine zb_rem hx hb dX0_sideVoltage_34 (by omega) (by omega) ?_
  refine zb_ine (tgt := 42) hx hb dX0_sideVoltage_35 (by decide) (by omega) (fun c35 => ?_) (fun c35 => ?_)
  · skip
    refine zb_iconst hx hb dX0_sideVoltage_42 ?_
    exact aw_iret hx hb hr hlocks dX0_sideVoltage_43 (by unfold aw_sd; rw [if_neg (by omega)])
  · skip
    refine zb_iconst hx hb dX0_sideVoltage_38 ?_
    refine lv_goto (tgt := 43) hx hb dX0_sideVoltage_39 (by decide) ?_
    exact aw_iret hx hb hr hlocks dX0_sideVoltage_43 (by unfold aw_sd; rw [if_pos (by omega)])
set_option maxHeartbeats 4000000 in
set_option maxRecDepth 100000 in
/-- coilVoltage(z, t) -/
theorem k_coilVoltage (hI : aw_In P S K N w ch) {z t : Int} (hz : 0 ≤ z ∧ z < N) (ht : 0 ≤ t ∧ t ≤ 100) : aw_RO l yX0_coilVoltage wsX0_coilVoltage (aw_rm 2 45) D (aw_T yZ yI) (aw_W3 yZ yI o oa ba P S K N ty px pr w ch ob g) [.ref o, .int (zI z), .int (zI t)] (aw_vt P S K ch z t) := by
  refine Met.ofW (cc := cX0_coilVoltage) (maxL := 3) (ret := (some .int)) (by decide) rfl ?_
  intro p e s m args below meth c s₁ B hml hv
  obtain ⟨rfl, hP, hK⟩ := hv
  have hx := B.exec
  have hb := B.bytes
  have hr := B.returns
  have hts := atoms_spec (ws := wsX0_coilVoltage) B.pre
  have hown : s.vm.findClass RX0 = some m.cls := findClass_of_methodNamed B.named
  have hlocks := B.notSynchronized
  have hin : ∀ w ∈ wsX00, w ∈ wsX0_coilVoltage := fun w h => List.mem_cons_of_mem _ (List.mem_append_right _ h)
  have hf_21 := hts (.fieldLink RX0 21 "ArmatureWinding" "coils" "I") (by decide +kernel)
  have hl := lv_entry ([.ref o, .int (zI z), .int (zI t)]) (n := 3) (Nat.le_of_ble_eq_true rfl)
  rw [lg_entry_eq]
  generalize (lg_sl ([.ref o, .int (zI z), .int (zI t)]) ++ List.replicate (3 - (lg_sl ([.ref o, .int (zI z), .int (zI t)])).length) Slot.unset).toArray = ls at hl ⊢
  have hl : lv_has ls 3 [(0, .ref o), (1, .int (zI z)), (2, .int (zI t))] := hl
  obtain ⟨i1, i2, i3, i4, i5, i6, i7, i8, i9, i10, i11, i12, i13⟩ := id hI
  have hq := aw_div (x := z) (n := K) (by omega) (by omega)
  have hqs := aw_divlt (z := z) i7 (by omega) (by omega)
  have hlo : 0 ≤ aw_lo P S K ch z ∧ aw_lo P S K ch z < S := aw_mod (by omega)
  refine lv_iload_n hx hb dX0_coilVoltage_0 rfl (lv_at hl 1 rfl) ?_
  refine zb_ilt (tgt := 12) hx hb dX0_coilVoltage_1 (by decide) (by omega) (fun c1 => absurd c1 (by omega)) (fun c1 => ?_)
  refine lv_iload_n hx hb dX0_coilVoltage_4 rfl (lv_at hl 1 rfl) ?_
  refine lv_aload_n hx hb dX0_coilVoltage_5 rfl (lv_at hl 0 rfl) ?_
  refine va_get (D := D) (ci := 0) (v := .int (zI N)) (C := RX0) (T := TX0) (N := 11) hx hb hts hin hown hK hP 0 rfl rfl 3 (by decide) hf_21 (fun _ h9 => h9) rfl dX0_coilVoltage_6 ?_
  refine zb_clt (tgt := 16) hx hb dX0_coilVoltage_9 (by decide) (by omega) (by omega) (fun c9 => ?_) (fun c9 => absurd c9 (by omega))
  refine lv_iload_n hx hb dX0_coilVoltage_16 rfl (lv_at hl 2 rfl) ?_
  refine zb_ilt (tgt := 26) hx hb dX0_coilVoltage_17 (by decide) (by omega) (fun c17 => absurd c17 (by omega)) (fun c17 => ?_)
  refine lv_iload_n hx hb dX0_coilVoltage_20 rfl (lv_at hl 2 rfl) ?_
  refine zb_bipush hx hb dX0_coilVoltage_21 (by decide) ?_
  refine zb_cle (tgt := 30) hx hb dX0_coilVoltage_23 (by decide) (by omega) (by omega) (fun c23 => ?_) (fun c23 => absurd c23 (by omega))
  refine lv_aload_n hx hb dX0_coilVoltage_30 rfl (lv_at hl 0 rfl) ?_
  refine lv_aload_n hx hb dX0_coilVoltage_31 rfl (lv_at hl 0 rfl) ?_
  refine lv_iload_n hx hb dX0_coilVoltage_32 rfl (lv_at hl 1 rfl) ?_
  refine aw_callV (As := [.int (zI z)]) (rest := [.ref o]) ⟨hx, hb, hml, hown, hts⟩ (k_upperSlot hI hz) (cwV 1 hts gX0_coilVoltage_X0_upperSlot rfl rfl rfl (by decide +kernel) ⟨Nat.le_of_ble_eq_true rfl, Nat.le_of_ble_eq_true rfl⟩) hP hK rfl rfl rfl hl.1 rfl (Nat.le_of_ble_eq_true rfl) dX0_coilVoltage_33 ⟨Nat.zero_le _, Nat.zero_le _⟩ ?_
  refine lv_iload_n hx hb dX0_coilVoltage_36 rfl (lv_at hl 2 rfl) ?_
  refine aw_callV (As := [.int (zI (z / K)), .int (zI t)]) (rest := []) ⟨hx, hb, hml, hown, hts⟩ (k_sideVoltage (a := z / K) (t := t) hI ⟨by omega, by omega⟩ ⟨by omega, by omega⟩) (cwV 2 hts gX0_coilVoltage_X0_sideVoltage rfl rfl rfl (by decide +kernel) ⟨Nat.le_of_ble_eq_true rfl, Nat.le_of_ble_eq_true rfl⟩) hP hK rfl rfl rfl hl.1 rfl (Nat.le_of_ble_eq_true rfl) dX0_coilVoltage_37 ⟨Nat.zero_le _, Nat.zero_le _⟩ ?_
  refine lv_aload_n hx hb dX0_coilVoltage_40 rfl (lv_at hl 0 rfl) ?_
  refine lv_aload_n hx hb dX0_coilVoltage_41 rfl (lv_at hl 0 rfl) ?_
  refine lv_iload_n hx hb dX0_coilVoltage_42 rfl (lv_at hl 1 rfl) ?_
  refine aw_callV (As := [.int (zI z)]) (rest := [.ref o, .int (zI (aw_sd P S (z / K) t))]) ⟨hx, hb, hml, hown, hts⟩ (k_lowerSlot hI hz) (cwV 1 hts gX0_coilVoltage_X0_lowerSlot rfl rfl rfl (by decide +kernel) ⟨Nat.le_of_ble_eq_true rfl, Nat.le_of_ble_eq_true rfl⟩) hP hK rfl rfl rfl hl.1 rfl (Nat.le_of_ble_eq_true rfl) dX0_coilVoltage_43 ⟨Nat.zero_le _, Nat.zero_le _⟩ ?_
  refine lv_iload_n hx hb dX0_coilVoltage_46 rfl (lv_at hl 2 rfl) ?_
  refine aw_callV (As := [.int (zI (aw_lo P S K ch z)), .int (zI t)]) (rest := [.int (zI (aw_sd P S (z / K) t))]) ⟨hx, hb, hml, hown, hts⟩ (k_sideVoltage (a := aw_lo P S K ch z) (t := t) hI ⟨by omega, by omega⟩ ⟨by omega, by omega⟩) (cwV 2 hts gX0_coilVoltage_X0_sideVoltage rfl rfl rfl (by decide +kernel) ⟨Nat.le_of_ble_eq_true rfl, Nat.le_of_ble_eq_true rfl⟩) hP hK rfl rfl rfl hl.1 rfl (Nat.le_of_ble_eq_true rfl) dX0_coilVoltage_47 ⟨Nat.zero_le _, Nat.zero_le _⟩ ?_
  refine zb_sub hx hb dX0_coilVoltage_50 ?_
  exact aw_iret hx hb hr hlocks dX0_coilVoltage_51 (by first | rfl | omega)
set_option maxHeartbeats 4000000 in
set_option maxRecDepth 100000 in
/-- coilVoltage(z, t), no such turn -/
theorem k_coilVoltage_oor (hI : aw_In P S K N w ch) {z t : Int} (hz : 0 ≤ z ∧ z < N) (ht : -1000 ≤ t ∧ t ≤ 1000) (ht2 : t < 0 ∨ 100 < t) : aw_RO l yX0_coilVoltage wsX0_coilVoltage (aw_rm 2 45) D (aw_T yZ yI) (aw_W3 yZ yI o oa ba P S K N ty px pr w ch ob g) [.ref o, .int (zI z), .int (zI t)] (-1001) := by
  refine Met.ofW (cc := cX0_coilVoltage) (maxL := 3) (ret := (some .int)) (by decide) rfl ?_
  intro p e s m args below meth c s₁ B hml hv
  obtain ⟨rfl, hP, hK⟩ := hv
  have hx := B.exec
  have hb := B.bytes
  have hr := B.returns
  have hts := atoms_spec (ws := wsX0_coilVoltage) B.pre
  have hown : s.vm.findClass RX0 = some m.cls := findClass_of_methodNamed B.named
  have hlocks := B.notSynchronized
  have hin : ∀ w ∈ wsX00, w ∈ wsX0_coilVoltage := fun w h => List.mem_cons_of_mem _ (List.mem_append_right _ h)
  have hf_21 := hts (.fieldLink RX0 21 "ArmatureWinding" "coils" "I") (by decide +kernel)
  have hl := lv_entry ([.ref o, .int (zI z), .int (zI t)]) (n := 3) (Nat.le_of_ble_eq_true rfl)
  rw [lg_entry_eq]
  generalize (lg_sl ([.ref o, .int (zI z), .int (zI t)]) ++ List.replicate (3 - (lg_sl ([.ref o, .int (zI z), .int (zI t)])).length) Slot.unset).toArray = ls at hl ⊢
  have hl : lv_has ls 3 [(0, .ref o), (1, .int (zI z)), (2, .int (zI t))] := hl
  obtain ⟨i1, i2, i3, i4, i5, i6, i7, i8, i9, i10, i11, i12, i13⟩ := id hI
  refine lv_iload_n hx hb dX0_coilVoltage_0 rfl (lv_at hl 1 rfl) ?_
  refine zb_ilt (tgt := 12) hx hb dX0_coilVoltage_1 (by decide) (by omega) (fun c1 => absurd c1 (by omega)) (fun c1 => ?_)
  refine lv_iload_n hx hb dX0_coilVoltage_4 rfl (lv_at hl 1 rfl) ?_
  refine lv_aload_n hx hb dX0_coilVoltage_5 rfl (lv_at hl 0 rfl) ?_
  refine va_get (D := D) (ci := 0) (v := .int (zI N)) (C := RX0) (T := TX0) (N := 11) hx hb hts hin hown hK hP 0 rfl rfl 3 (by decide) hf_21 (fun _ h9 => h9) rfl dX0_coilVoltage_6 ?_
  refine zb_clt (tgt := 16) hx hb dX0_coilVoltage_9 (by decide) (by omega) (by omega) (fun c9 => ?_) (fun c9 => absurd c9 (by omega))
  refine lv_iload_n hx hb dX0_coilVoltage_16 rfl (lv_at hl 2 rfl) ?_
  refine zb_ilt (tgt := 26) hx hb dX0_coilVoltage_17 (by decide) (by omega) (fun c17 => ?_) (fun c17 => ?_)
  · skip
    refine zb_sipush hx hb dX0_coilVoltage_26 (by decide) ?_
    exact aw_iret hx hb hr hlocks dX0_coilVoltage_29 (by first | rfl | omega)
  · skip
    refine lv_iload_n hx hb dX0_coilVoltage_20 rfl (lv_at hl 2 rfl) ?_
    refine zb_bipush hx hb dX0_coilVoltage_21 (by decide) ?_
    refine zb_cle (tgt := 30) hx hb dX0_coilVoltage_23 (by decide) (by omega) (by omega) (fun c23 => absurd c23 (by omega)) (fun c23 => ?_)
    refine zb_sipush hx hb dX0_coilVoltage_26 (by decide) ?_
    exact aw_iret hx hb hr hlocks dX0_coilVoltage_29 (by first | rfl | omega)
set_option maxHeartbeats 4000000 in
set_option maxRecDepth 100000 in
/-- coilVoltage(z, t), no such coil -/
theorem k_coilVoltage_no (hI : aw_In P S K N w ch) {z t : Int} (hz : -1000 ≤ z ∧ z ≤ 1000) (hz2 : z < 0 ∨ N ≤ z) : aw_RO l yX0_coilVoltage wsX0_coilVoltage (aw_rm 2 45) D (aw_T yZ yI) (aw_W3 yZ yI o oa ba P S K N ty px pr w ch ob g) [.ref o, .int (zI z), .int (zI t)] (-1002) := by
  refine Met.ofW (cc := cX0_coilVoltage) (maxL := 3) (ret := (some .int)) (by decide) rfl ?_
  intro p e s m args below meth c s₁ B hml hv
  obtain ⟨rfl, hP, hK⟩ := hv
  have hx := B.exec
  have hb := B.bytes
  have hr := B.returns
  have hts := atoms_spec (ws := wsX0_coilVoltage) B.pre
  have hown : s.vm.findClass RX0 = some m.cls := findClass_of_methodNamed B.named
  have hlocks := B.notSynchronized
  have hin : ∀ w ∈ wsX00, w ∈ wsX0_coilVoltage := fun w h => List.mem_cons_of_mem _ (List.mem_append_right _ h)
  have hf_21 := hts (.fieldLink RX0 21 "ArmatureWinding" "coils" "I") (by decide +kernel)
  have hl := lv_entry ([.ref o, .int (zI z), .int (zI t)]) (n := 3) (Nat.le_of_ble_eq_true rfl)
  rw [lg_entry_eq]
  generalize (lg_sl ([.ref o, .int (zI z), .int (zI t)]) ++ List.replicate (3 - (lg_sl ([.ref o, .int (zI z), .int (zI t)])).length) Slot.unset).toArray = ls at hl ⊢
  have hl : lv_has ls 3 [(0, .ref o), (1, .int (zI z)), (2, .int (zI t))] := hl
  obtain ⟨i1, i2, i3, i4, i5, i6, i7, i8, i9, i10, i11, i12, i13⟩ := id hI
  refine lv_iload_n hx hb dX0_coilVoltage_0 rfl (lv_at hl 1 rfl) ?_
  refine zb_ilt (tgt := 12) hx hb dX0_coilVoltage_1 (by decide) (by omega) (fun c1 => ?_) (fun c1 => ?_)
  · skip
    refine zb_sipush hx hb dX0_coilVoltage_12 (by decide) ?_
    exact aw_iret hx hb hr hlocks dX0_coilVoltage_15 (by first | rfl | omega)
  · skip
    refine lv_iload_n hx hb dX0_coilVoltage_4 rfl (lv_at hl 1 rfl) ?_
    refine lv_aload_n hx hb dX0_coilVoltage_5 rfl (lv_at hl 0 rfl) ?_
    refine va_get (D := D) (ci := 0) (v := .int (zI N)) (C := RX0) (T := TX0) (N := 11) hx hb hts hin hown hK hP 0 rfl rfl 3 (by decide) hf_21 (fun _ h9 => h9) rfl dX0_coilVoltage_6 ?_
    refine zb_clt (tgt := 16) hx hb dX0_coilVoltage_9 (by decide) (by omega) (by omega) (fun c9 => absurd c9 (by omega)) (fun c9 => ?_)
    refine zb_sipush hx hb dX0_coilVoltage_12 (by decide) ?_
    exact aw_iret hx hb hr hlocks dX0_coilVoltage_15 (by first | rfl | omega)
set_option maxHeartbeats 4000000 in
set_option maxRecDepth 100000 in
/-- openCoilsIn(a) -/
theorem k_openCoilsIn (hI : aw_In P S K N w ch) {a : Int} (ha : 0 ≤ a ∧ a < S) : aw_RO l yX0_openCoilsIn wsX0_openCoilsIn (aw_rm 2 43) D (aw_T yZ yI) (aw_W3 yZ yI o oa ba P S K N ty px pr w ch ob g) [.ref o, .int (zI a)] (aw_cn (aw_oc P S K ch ob a) N) := by
  refine Met.ofW (cc := cX0_openCoilsIn) (maxL := 4) (ret := (some .int)) (by decide) rfl ?_
  intro p e s m args below meth c s₁ B hml hv
  obtain ⟨rfl, hP, hK⟩ := hv
  have hx := B.exec
  have hb := B.bytes
  have hr := B.returns
  have hts := atoms_spec (ws := wsX0_openCoilsIn) B.pre
  have hown : s.vm.findClass RX0 = some m.cls := findClass_of_methodNamed B.named
  have hlocks := B.notSynchronized
  have hin : ∀ w ∈ wsX00, w ∈ wsX0_openCoilsIn := fun w h => List.mem_cons_of_mem _ (List.mem_append_right _ h)
  have hf_21 := hts (.fieldLink RX0 21 "ArmatureWinding" "coils" "I") (by decide +kernel)
  have hf_49 := hts (.fieldLink RX0 49 "ArmatureWinding" "slots" "I") (by decide +kernel)
  have hl := lv_entry ([.ref o, .int (zI a)]) (n := 4) (Nat.le_of_ble_eq_true rfl)
  rw [lg_entry_eq]
  generalize (lg_sl ([.ref o, .int (zI a)]) ++ List.replicate (4 - (lg_sl ([.ref o, .int (zI a)])).length) Slot.unset).toArray = ls at hl ⊢
  have hl : lv_has ls 4 [(0, .ref o), (1, .int (zI a))] := hl
  obtain ⟨i1, i2, i3, i4, i5, i6, i7, i8, i9, i10, i11, i12, i13⟩ := id hI
  refine lv_iload_n hx hb dX0_openCoilsIn_0 rfl (lv_at hl 1 rfl) ?_
  refine zb_ilt (tgt := 12) hx hb dX0_openCoilsIn_1 (by decide) (by omega) (fun c1 => absurd c1 (by omega)) (fun c1 => ?_)
  refine lv_iload_n hx hb dX0_openCoilsIn_4 rfl (lv_at hl 1 rfl) ?_
  refine lv_aload_n hx hb dX0_openCoilsIn_5 rfl (lv_at hl 0 rfl) ?_
  refine va_get (D := D) (ci := 0) (v := .int (zI S)) (C := RX0) (T := TX0) (N := 11) hx hb hts hin hown hK hP 0 rfl rfl 1 (by decide) hf_49 (fun _ h9 => h9) rfl dX0_openCoilsIn_6 ?_
  refine zb_clt (tgt := 16) hx hb dX0_openCoilsIn_9 (by decide) (by omega) (by omega) (fun c9 => ?_) (fun c9 => absurd c9 (by omega))
  refine zb_iconst hx hb dX0_openCoilsIn_16 ?_
  refine lv_istore_n (lv' := [(2, .int (zI 0)), (0, .ref o), (1, .int (zI a))]) hx hb dX0_openCoilsIn_17 rfl hl (by decide) rfl (fun ls hl => ?_)
  refine zb_iconst hx hb dX0_openCoilsIn_18 ?_
  refine lv_istore_n (lv' := [(3, .int (zI 0)), (2, .int (zI 0)), (0, .ref o), (1, .int (zI a))]) hx hb dX0_openCoilsIn_19 rfl hl (by decide) rfl (fun ls hl => ?_)
  refine zb_lp2 (nL := 4) (fun n z => 0 ≤ z ∧ z ≤ N ∧ n = aw_cn (aw_oc P S K ch ob a) z) (fun n z => [(3, .int (zI z)), (2, .int (zI n)), (1, .int (zI a)), (0, .ref o)]) (fun n z => N - z) 0 0 ⟨by omega, by omega, (aw_cn_0 _).symm⟩ (lv_sub hl [0, 1, 3, 2] rfl) ?_
  intro n z ls hJ20 hl ih20
  have hJ20 : 0 ≤ z ∧ z ≤ N ∧ n = aw_cn (aw_oc P S K ch ob a) z := hJ20
  have hl : lv_has ls 4 [(3, .int (zI z)), (2, .int (zI n)), (1, .int (zI a)), (0, .ref o)] := hl
  have hb1 := aw_b_01 (ob z)
  refine lv_iload_n hx hb dX0_openCoilsIn_20 rfl (lv_at hl 0 rfl) ?_
  refine lv_aload_n hx hb dX0_openCoilsIn_21 rfl (lv_at hl 3 rfl) ?_
  refine va_get (D := D) (ci := 0) (v := .int (zI N)) (C := RX0) (T := TX0) (N := 11) hx hb hts hin hown hK hP 0 rfl rfl 3 (by decide) hf_21 (fun _ h9 => h9) rfl dX0_openCoilsIn_22 ?_
  refine zb_cge (tgt := 63) hx hb dX0_openCoilsIn_25 (by decide) (by omega) (by omega) (fun c25 => ?_) (fun c25 => ?_)
  · skip
    refine lv_iload_n hx hb dX0_openCoilsIn_63 rfl (lv_at hl 1 rfl) ?_
    exact aw_iret hx hb hr hlocks dX0_openCoilsIn_64 (have e : z = N := (by omega); by rw [hJ20.2.2, e])
  · skip
    refine lv_aload_n hx hb dX0_openCoilsIn_28 rfl (lv_at hl 3 rfl) ?_
    refine lv_iload_n hx hb dX0_openCoilsIn_29 rfl (lv_at hl 0 rfl) ?_
    refine aw_callV (As := [.int (zI z)]) (rest := []) ⟨hx, hb, hml, hown, hts⟩ (k_isOpen (z := z) ⟨by omega, by omega⟩) (cwV 1 hts gX0_openCoilsIn_X0_isOpen rfl rfl rfl (by decide +kernel) ⟨Nat.le_of_ble_eq_true rfl, Nat.le_of_ble_eq_true rfl⟩) hP hK rfl rfl rfl hl.1 rfl (Nat.le_of_ble_eq_true rfl) dX0_openCoilsIn_30 ⟨Nat.zero_le _, Nat.zero_le _⟩ ?_
    refine zb_ieq (tgt := 57) hx hb dX0_openCoilsIn_33 (by decide) (by omega) (fun c33 => ?_) (fun c33 => ?_)
    · skip
      refine zb_iinc (lv' := [(3, .int (zI (z + 1))), (2, .int (zI n)), (1, .int (zI a)), (0, .ref o)]) hx hb dX0_openCoilsIn_57 hl (k := 0) rfl (by decide) rfl (fun ls hl => ?_)
      refine lv_goto (tgt := 20) hx hb dX0_openCoilsIn_60 (by decide) ?_
      exact ih20 n (z + 1) ls ⟨by omega, by omega, by rw [aw_cn_s _ hJ20.1, aw_b_f (by unfold aw_oc; rw [aw_b_eq0.mp c33]; rfl), hJ20.2.2, Int.add_zero]⟩ (by omega) (lv_sub hl [0, 1, 2, 3] rfl)
    · skip
      refine lv_aload_n hx hb dX0_openCoilsIn_36 rfl (lv_at hl 3 rfl) ?_
      refine lv_iload_n hx hb dX0_openCoilsIn_37 rfl (lv_at hl 0 rfl) ?_
      have hz : 0 ≤ z ∧ z < N := ⟨by omega, by omega⟩
      have hq := aw_div (x := z) (n := K) (by omega) (by omega)
      have hqs := aw_divlt (z := z) i7 (by omega) (by omega)
      have hlo : 0 ≤ aw_lo P S K ch z ∧ aw_lo P S K ch z < S := aw_mod (by omega)
      refine aw_callV (As := [.int (zI z)]) (rest := []) ⟨hx, hb, hml, hown, hts⟩ (k_upperSlot hI hz) (cwV 1 hts gX0_openCoilsIn_X0_upperSlot rfl rfl rfl (by decide +kernel) ⟨Nat.le_of_ble_eq_true rfl, Nat.le_of_ble_eq_true rfl⟩) hP hK rfl rfl rfl hl.1 rfl (Nat.le_of_ble_eq_true rfl) dX0_openCoilsIn_38 ⟨Nat.zero_le _, Nat.zero_le _⟩ ?_
      refine lv_iload_n hx hb dX0_openCoilsIn_41 rfl (lv_at hl 2 rfl) ?_
      refine zb_ceq (tgt := 54) hx hb dX0_openCoilsIn_42 (by decide) (by omega) (by omega) (fun c42 => ?_) (fun c42 => ?_)
      · skip
        refine zb_iinc (lv' := [(2, .int (zI (n + 1))), (3, .int (zI z)), (1, .int (zI a)), (0, .ref o)]) hx hb dX0_openCoilsIn_54 hl (k := 1) rfl (by decide) rfl (fun ls hl => ?_)
        refine zb_iinc (lv' := [(3, .int (zI (z + 1))), (2, .int (zI (n + 1))), (1, .int (zI a)), (0, .ref o)]) hx hb dX0_openCoilsIn_57 hl (k := 1) rfl (by decide) rfl (fun ls hl => ?_)
        refine lv_goto (tgt := 20) hx hb dX0_openCoilsIn_60 (by decide) ?_
        exact ih20 (n + 1) (z + 1) ls ⟨by omega, by omega, by rw [aw_cn_s _ hJ20.1, aw_b_t (by unfold aw_oc; rw [aw_b_ne0.mp c33, c42]; simp), hJ20.2.2]⟩ (by omega) (lv_sub hl [0, 1, 2, 3] rfl)
      · skip
        refine lv_aload_n hx hb dX0_openCoilsIn_45 rfl (lv_at hl 3 rfl) ?_
        refine lv_iload_n hx hb dX0_openCoilsIn_46 rfl (lv_at hl 0 rfl) ?_
        refine aw_callV (As := [.int (zI z)]) (rest := []) ⟨hx, hb, hml, hown, hts⟩ (k_lowerSlot hI hz) (cwV 1 hts gX0_openCoilsIn_X0_lowerSlot rfl rfl rfl (by decide +kernel) ⟨Nat.le_of_ble_eq_true rfl, Nat.le_of_ble_eq_true rfl⟩) hP hK rfl rfl rfl hl.1 rfl (Nat.le_of_ble_eq_true rfl) dX0_openCoilsIn_47 ⟨Nat.zero_le _, Nat.zero_le _⟩ ?_
        refine lv_iload_n hx hb dX0_openCoilsIn_50 rfl (lv_at hl 2 rfl) ?_
        refine zb_cne (tgt := 57) hx hb dX0_openCoilsIn_51 (by decide) (by omega) (by omega) (fun c51 => ?_) (fun c51 => ?_)
        · skip
          refine zb_iinc (lv' := [(3, .int (zI (z + 1))), (2, .int (zI n)), (1, .int (zI a)), (0, .ref o)]) hx hb dX0_openCoilsIn_57 hl (k := 0) rfl (by decide) rfl (fun ls hl => ?_)
          refine lv_goto (tgt := 20) hx hb dX0_openCoilsIn_60 (by decide) ?_
          exact ih20 n (z + 1) ls ⟨by omega, by omega, by rw [aw_cn_s _ hJ20.1, aw_b_f (by unfold aw_oc; simp [c42, c51]), hJ20.2.2, Int.add_zero]⟩ (by omega) (lv_sub hl [0, 1, 2, 3] rfl)
        · skip
          refine zb_iinc (lv' := [(2, .int (zI (n + 1))), (3, .int (zI z)), (1, .int (zI a)), (0, .ref o)]) hx hb dX0_openCoilsIn_54 hl (k := 1) rfl (by decide) rfl (fun ls hl => ?_)
          refine zb_iinc (lv' := [(3, .int (zI (z + 1))), (2, .int (zI (n + 1))), (1, .int (zI a)), (0, .ref o)]) hx hb dX0_openCoilsIn_57 hl (k := 1) rfl (by decide) rfl (fun ls hl => ?_)
          refine lv_goto (tgt := 20) hx hb dX0_openCoilsIn_60 (by decide) ?_
          exact ih20 (n + 1) (z + 1) ls ⟨by omega, by omega, by rw [aw_cn_s _ hJ20.1, aw_b_t (by unfold aw_oc; rw [aw_b_ne0.mp c33, c51]; simp), hJ20.2.2]⟩ (by omega) (lv_sub hl [0, 1, 2, 3] rfl)
set_option maxHeartbeats 4000000 in
set_option maxRecDepth 100000 in
/-- openCoilsIn(a), no such slot -/
theorem k_openCoilsIn_no (hI : aw_In P S K N w ch) {a : Int} (ha : -1000 ≤ a ∧ a ≤ 1000) (ha2 : a < 0 ∨ S ≤ a) : aw_RO l yX0_openCoilsIn wsX0_openCoilsIn (aw_rm 2 43) D (aw_T yZ yI) (aw_W3 yZ yI o oa ba P S K N ty px pr w ch ob g) [.ref o, .int (zI a)] (-1002) := by
  refine Met.ofW (cc := cX0_openCoilsIn) (maxL := 4) (ret := (some .int)) (by decide) rfl ?_
  intro p e s m args below meth c s₁ B hml hv
  obtain ⟨rfl, hP, hK⟩ := hv
  have hx := B.exec
  have hb := B.bytes
  have hr := B.returns
  have hts := atoms_spec (ws := wsX0_openCoilsIn) B.pre
  have hown : s.vm.findClass RX0 = some m.cls := findClass_of_methodNamed B.named
  have hlocks := B.notSynchronized
  have hin : ∀ w ∈ wsX00, w ∈ wsX0_openCoilsIn := fun w h => List.mem_cons_of_mem _ (List.mem_append_right _ h)
  have hf_21 := hts (.fieldLink RX0 21 "ArmatureWinding" "coils" "I") (by decide +kernel)
  have hf_49 := hts (.fieldLink RX0 49 "ArmatureWinding" "slots" "I") (by decide +kernel)
  have hl := lv_entry ([.ref o, .int (zI a)]) (n := 4) (Nat.le_of_ble_eq_true rfl)
  rw [lg_entry_eq]
  generalize (lg_sl ([.ref o, .int (zI a)]) ++ List.replicate (4 - (lg_sl ([.ref o, .int (zI a)])).length) Slot.unset).toArray = ls at hl ⊢
  have hl : lv_has ls 4 [(0, .ref o), (1, .int (zI a))] := hl
  obtain ⟨i1, i2, i3, i4, i5, i6, i7, i8, i9, i10, i11, i12, i13⟩ := id hI
  refine lv_iload_n hx hb dX0_openCoilsIn_0 rfl (lv_at hl 1 rfl) ?_
  refine zb_ilt (tgt := 12) hx hb dX0_openCoilsIn_1 (by decide) (by omega) (fun c1 => ?_) (fun c1 => ?_)
  · skip
    refine zb_sipush hx hb dX0_openCoilsIn_12 (by decide) ?_
    exact aw_iret hx hb hr hlocks dX0_openCoilsIn_15 (by first | rfl | omega)
  · skip
    refine lv_iload_n hx hb dX0_openCoilsIn_4 rfl (lv_at hl 1 rfl) ?_
    refine lv_aload_n hx hb dX0_openCoilsIn_5 rfl (lv_at hl 0 rfl) ?_
    refine va_get (D := D) (ci := 0) (v := .int (zI S)) (C := RX0) (T := TX0) (N := 11) hx hb hts hin hown hK hP 0 rfl rfl 1 (by decide) hf_49 (fun _ h9 => h9) rfl dX0_openCoilsIn_6 ?_
    refine zb_clt (tgt := 16) hx hb dX0_openCoilsIn_9 (by decide) (by omega) (by omega) (fun c9 => absurd c9 (by omega)) (fun c9 => ?_)
    refine zb_sipush hx hb dX0_openCoilsIn_12 (by decide) ?_
    exact aw_iret hx hb hr hlocks dX0_openCoilsIn_15 (by first | rfl | omega)
end
