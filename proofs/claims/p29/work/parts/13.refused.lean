theorem aw_tdiv_in {x y a : Int} (hx : -a ≤ x) (hx2 : x ≤ a) (_hy : 1 ≤ y) : -a ≤ x.tdiv y ∧ x.tdiv y ≤ a := by
  have h1 : (x.tdiv y).natAbs ≤ x.natAbs := by rw [Int.natAbs_tdiv]; exact Nat.div_le_self _ _
  omega
section
variable {l : Launch} {D : va_G} {yZ yI : ClassId} {o oa ba da pa : Nat} {P S K N w ch : Int} {ty px pr : Int32} {ob : Int → Bool} {g pf : Nat → Int32} {dv : Nat → Int}
set_option maxHeartbeats 4000000 in
set_option maxRecDepth 100000 in
/-- brushBar(q) -/
theorem k_brushBar (hP1 : 1 ≤ P ∧ P ≤ 8) (hN1 : 0 ≤ N ∧ N ≤ 72) {q : Int} (hq : 0 ≤ q ∧ q < P) : aw_RO l yX0_brushBar wsX0_brushBar (aw_rm 0 0) D (aw_T yZ yI) (aw_W3 yZ yI o oa ba P S K N ty px pr w ch ob g) [.ref o, .int (zI q)] (q * N / P) := by
  refine Met.ofW (cc := cX0_brushBar) (maxL := 2) (ret := (some .int)) (by decide) rfl ?_
  intro p e s m args below meth c s₁ B hml hv
  obtain ⟨rfl, hP, hK⟩ := hv
  have hx := B.exec
  have hb := B.bytes
  have hr := B.returns
  have hts := atoms_spec (ws := wsX0_brushBar) B.pre
  have hown : s.vm.findClass RX0 = some m.cls := findClass_of_methodNamed B.named
  have hlocks := B.notSynchronized
  have hin : ∀ w ∈ wsX00, w ∈ wsX0_brushBar := fun w h => List.mem_cons_of_mem _ (List.mem_append_right _ h)
  have hf_21 := hts (.fieldLink RX0 21 "ArmatureWinding" "coils" "I") (by decide +kernel)
  have hf_46 := hts (.fieldLink RX0 46 "ArmatureWinding" "poles" "I") (by decide +kernel)
  have hl := lv_entry ([.ref o, .int (zI q)]) (n := 2) (Nat.le_of_ble_eq_true rfl)
  rw [lg_entry_eq]
  generalize (lg_sl ([.ref o, .int (zI q)]) ++ List.replicate (2 - (lg_sl ([.ref o, .int (zI q)])).length) Slot.unset).toArray = ls at hl ⊢
  have hl : lv_has ls 2 [(0, .ref o), (1, .int (zI q))] := hl
  have hm := aw_mul (x := q) (y := N) (a := 8) (b := 72) (by omega) (by omega) (by omega) (by omega)
  have hm0 : 0 ≤ q * N := Int.mul_nonneg (by omega) (by omega)
  refine lv_iload_n hx hb dX0_brushBar_0 rfl (lv_at hl 1 rfl) ?_
  refine zb_ilt (tgt := 19) hx hb dX0_brushBar_1 (by decide) (by omega) (fun c1 => absurd c1 (by omega)) (fun c1 => ?_)
  refine lv_iload_n hx hb dX0_brushBar_4 rfl (lv_at hl 1 rfl) ?_
  refine lv_aload_n hx hb dX0_brushBar_5 rfl (lv_at hl 0 rfl) ?_
  refine va_get (D := D) (ci := 0) (v := .int (zI P)) (C := RX0) (T := TX0) (N := 11) hx hb hts hin hown hK hP 0 rfl rfl 0 (by decide) hf_46 (fun _ h9 => h9) rfl dX0_brushBar_6 ?_
  refine zb_cge (tgt := 19) hx hb dX0_brushBar_9 (by decide) (by omega) (by omega) (fun c9 => absurd c9 (by omega)) (fun c9 => ?_)
  refine lv_aload_n hx hb dX0_brushBar_12 rfl (lv_at hl 0 rfl) ?_
  refine va_get (D := D) (ci := 0) (v := .int (zI P)) (C := RX0) (T := TX0) (N := 11) hx hb hts hin hown hK hP 0 rfl rfl 0 (by decide) hf_46 (fun _ h9 => h9) rfl dX0_brushBar_13 ?_
  refine zb_igt (tgt := 23) hx hb dX0_brushBar_16 (by decide) (by omega) (fun c16 => ?_) (fun c16 => absurd c16 (by omega))
  refine lv_iload_n hx hb dX0_brushBar_23 rfl (lv_at hl 1 rfl) ?_
  refine lv_aload_n hx hb dX0_brushBar_24 rfl (lv_at hl 0 rfl) ?_
  refine va_get (D := D) (ci := 0) (v := .int (zI N)) (C := RX0) (T := TX0) (N := 11) hx hb hts hin hown hK hP 0 rfl rfl 3 (by decide) hf_21 (fun _ h9 => h9) rfl dX0_brushBar_25 ?_
  refine zb_mul hx hb dX0_brushBar_28 ?_
  refine lv_aload_n hx hb dX0_brushBar_29 rfl (lv_at hl 0 rfl) ?_
  refine va_get (D := D) (ci := 0) (v := .int (zI P)) (C := RX0) (T := TX0) (N := 11) hx hb hts hin hown hK hP 0 rfl rfl 0 (by decide) hf_46 (fun _ h9 => h9) rfl dX0_brushBar_30 ?_
  refine zb_div hx hb dX0_brushBar_33 (by omega) (by omega) ?_
  exact aw_iret hx hb hr hlocks dX0_brushBar_34 (by first | rfl | omega)
set_option maxHeartbeats 4000000 in
set_option maxRecDepth 100000 in
/-- wavePitch(x) -/
theorem k_wavePitch (hP1 : 2 ≤ P ∧ P ≤ 8) (hN1 : 0 ≤ N ∧ N ≤ 72) {x : Int} (hx3 : -10 ≤ x ∧ x ≤ 10) : aw_RO l yX0_wavePitch wsX0_wavePitch (aw_rm 0 0) D (aw_T yZ yI) (aw_W3 yZ yI o oa ba P S K N ty px pr w ch ob g) [.ref o, .int (zI x)] ((N + x).tdiv (P / 2)) := by
  refine Met.ofW (cc := cX0_wavePitch) (maxL := 3) (ret := (some .int)) (by decide) rfl ?_
  intro p e s m args below meth c s₁ B hml hv
  obtain ⟨rfl, hP, hK⟩ := hv
  have hx := B.exec
  have hb := B.bytes
  have hr := B.returns
  have hts := atoms_spec (ws := wsX0_wavePitch) B.pre
  have hown : s.vm.findClass RX0 = some m.cls := findClass_of_methodNamed B.named
  have hlocks := B.notSynchronized
  have hin : ∀ w ∈ wsX00, w ∈ wsX0_wavePitch := fun w h => List.mem_cons_of_mem _ (List.mem_append_right _ h)
  have hf_21 := hts (.fieldLink RX0 21 "ArmatureWinding" "coils" "I") (by decide +kernel)
  have hf_46 := hts (.fieldLink RX0 46 "ArmatureWinding" "poles" "I") (by decide +kernel)
  have hl := lv_entry ([.ref o, .int (zI x)]) (n := 3) (Nat.le_of_ble_eq_true rfl)
  rw [lg_entry_eq]
  generalize (lg_sl ([.ref o, .int (zI x)]) ++ List.replicate (3 - (lg_sl ([.ref o, .int (zI x)])).length) Slot.unset).toArray = ls at hl ⊢
  have hl : lv_has ls 3 [(0, .ref o), (1, .int (zI x))] := hl
  refine lv_aload_n hx hb dX0_wavePitch_0 rfl (lv_at hl 0 rfl) ?_
  refine va_get (D := D) (ci := 0) (v := .int (zI P)) (C := RX0) (T := TX0) (N := 11) hx hb hts hin hown hK hP 0 rfl rfl 0 (by decide) hf_46 (fun _ h9 => h9) rfl dX0_wavePitch_1 ?_
  refine zb_iconst hx hb dX0_wavePitch_4 ?_
  refine zb_div hx hb dX0_wavePitch_5 (by omega) (by omega) ?_
  refine lv_istore_n (lv' := [(2, .int (zI (P / 2))), (0, .ref o), (1, .int (zI x))]) hx hb dX0_wavePitch_6 rfl hl (by decide) rfl (fun ls hl => ?_)
  refine lv_iload_n hx hb dX0_wavePitch_7 rfl (lv_at hl 0 rfl) ?_
  refine zb_ile (tgt := 22) hx hb dX0_wavePitch_8 (by decide) (by omega) (fun c8 => absurd c8 (by omega)) (fun c8 => ?_)
  refine lv_aload_n hx hb dX0_wavePitch_11 rfl (lv_at hl 1 rfl) ?_
  refine va_get (D := D) (ci := 0) (v := .int (zI N)) (C := RX0) (T := TX0) (N := 11) hx hb hts hin hown hK hP 0 rfl rfl 3 (by decide) hf_21 (fun _ h9 => h9) rfl dX0_wavePitch_12 ?_
  refine lv_iload_n hx hb dX0_wavePitch_15 rfl (lv_at hl 2 rfl) ?_
  refine zb_add hx hb dX0_wavePitch_16 ?_
  refine lv_iload_n hx hb dX0_wavePitch_17 rfl (lv_at hl 0 rfl) ?_
  refine zb_tdiv hx hb dX0_wavePitch_18 (by omega) (by omega) ?_
  refine lv_goto (tgt := 23) hx hb dX0_wavePitch_19 (by decide) ?_
  exact aw_iret hx hb hr hlocks dX0_wavePitch_23 (by first | rfl | omega)
set_option maxHeartbeats 4000000 in
set_option maxRecDepth 100000 in
/-- isWavePossible(x) -/
theorem k_isWavePossible (hP1 : 2 ≤ P ∧ P ≤ 8) (hN1 : 0 ≤ N ∧ N ≤ 72) {x : Int} (hx3 : -10 ≤ x ∧ x ≤ 10) : aw_RO l yX0_isWavePossible wsX0_isWavePossible (aw_rm 1 22) D (aw_T yZ yI) (aw_W3 yZ yI o oa ba P S K N ty px pr w ch ob g) [.ref o, .int (zI x)] (aw_b (decide ((N + x).tdiv (P / 2) * (P / 2) = N + x))) := by
  refine Met.ofW (cc := cX0_isWavePossible) (maxL := 2) (ret := (some .boolean)) (by decide) rfl ?_
  intro p e s m args below meth c s₁ B hml hv
  obtain ⟨rfl, hP, hK⟩ := hv
  have hx := B.exec
  have hb := B.bytes
  have hr := B.returns
  have hts := atoms_spec (ws := wsX0_isWavePossible) B.pre
  have hown : s.vm.findClass RX0 = some m.cls := findClass_of_methodNamed B.named
  have hlocks := B.notSynchronized
  have hin : ∀ w ∈ wsX00, w ∈ wsX0_isWavePossible := fun w h => List.mem_cons_of_mem _ (List.mem_append_right _ h)
  have hf_21 := hts (.fieldLink RX0 21 "ArmatureWinding" "coils" "I") (by decide +kernel)
  have hf_46 := hts (.fieldLink RX0 46 "ArmatureWinding" "poles" "I") (by decide +kernel)
  have hl := lv_entry ([.ref o, .int (zI x)]) (n := 2) (Nat.le_of_ble_eq_true rfl)
  rw [lg_entry_eq]
  generalize (lg_sl ([.ref o, .int (zI x)]) ++ List.replicate (2 - (lg_sl ([.ref o, .int (zI x)])).length) Slot.unset).toArray = ls at hl ⊢
  have hl : lv_has ls 2 [(0, .ref o), (1, .int (zI x))] := hl
  have ht := aw_tdiv_in (x := N + x) (y := P / 2) (a := 82) (by omega) (by omega) (by omega)
  have hm := aw_mul (x := P / 2) (y := (N + x).tdiv (P / 2)) (a := 4) (b := 82) (by omega) (by omega) (by omega) (by omega)
  have hc : (N + x).tdiv (P / 2) * (P / 2) = P / 2 * (N + x).tdiv (P / 2) := Int.mul_comm _ _
  refine lv_aload_n hx hb dX0_isWavePossible_0 rfl (lv_at hl 0 rfl) ?_
  refine lv_iload_n hx hb dX0_isWavePossible_1 rfl (lv_at hl 1 rfl) ?_
  refine aw_callV (As := [.int (zI x)]) (rest := []) ⟨hx, hb, hml, hown, hts⟩ (k_wavePitch (x := x) hP1 hN1 hx3) (cwV 1 hts gX0_isWavePossible_X0_wavePitch rfl rfl rfl (by decide +kernel) ⟨Nat.le_of_ble_eq_true rfl, Nat.le_of_ble_eq_true rfl⟩) hP hK rfl rfl rfl hl.1 rfl (Nat.le_of_ble_eq_true rfl) dX0_isWavePossible_2 ⟨Nat.zero_le _, Nat.zero_le _⟩ ?_
  refine lv_aload_n hx hb dX0_isWavePossible_5 rfl (lv_at hl 0 rfl) ?_
  refine va_get (D := D) (ci := 0) (v := .int (zI P)) (C := RX0) (T := TX0) (N := 11) hx hb hts hin hown hK hP 0 rfl rfl 0 (by decide) hf_46 (fun _ h9 => h9) rfl dX0_isWavePossible_6 ?_
  refine zb_iconst hx hb dX0_isWavePossible_9 ?_
  refine zb_div hx hb dX0_isWavePossible_10 (by omega) (by omega) ?_
  refine zb_mul hx hb dX0_isWavePossible_11 ?_
  refine lv_aload_n hx hb dX0_isWavePossible_12 rfl (lv_at hl 0 rfl) ?_
  refine va_get (D := D) (ci := 0) (v := .int (zI N)) (C := RX0) (T := TX0) (N := 11) hx hb hts hin hown hK hP 0 rfl rfl 3 (by decide) hf_21 (fun _ h9 => h9) rfl dX0_isWavePossible_13 ?_
  refine lv_iload_n hx hb dX0_isWavePossible_16 rfl (lv_at hl 1 rfl) ?_
  refine zb_add hx hb dX0_isWavePossible_17 ?_
  refine zb_cne (tgt := 25) hx hb dX0_isWavePossible_18 (by decide) (by omega) (by omega) (fun c18 => ?_) (fun c18 => ?_)
  · skip
    refine zb_iconst hx hb dX0_isWavePossible_25 ?_
    exact aw_zret hx hb hr hlocks dX0_isWavePossible_26 (by omega) (by rw [decide_eq_false c18]; rfl)
  · skip
    refine zb_iconst hx hb dX0_isWavePossible_21 ?_
    refine lv_goto (tgt := 26) hx hb dX0_isWavePossible_22 (by decide) ?_
    exact aw_zret hx hb hr hlocks dX0_isWavePossible_26 (by omega) (by rw [decide_eq_true c18]; rfl)
set_option maxHeartbeats 4000000 in
set_option maxRecDepth 100000 in
/-- setArmature(a, b, k), out of range -/
theorem k_setArmature_no {a b k : Int} (ha : -1000 ≤ a ∧ a ≤ 1000) (hb3 : -1000 ≤ b ∧ b ≤ 1000) (hk : -1000 ≤ k ∧ k ≤ 1000) (hno : ¬ (2 ≤ a ∧ a ≤ 8 ∧ a % 2 = 0 ∧ a ≤ b ∧ b ≤ 24 ∧ 1 ≤ k ∧ k ≤ 3)) : aw_RO l yX0_setArmature wsX0_setArmature (aw_rm 3 67) D (aw_T yZ yI) (aw_W3 yZ yI o oa ba P S K N ty px pr w ch ob g) [.ref o, .int (zI a), .int (zI b), .int (zI k)] (-1001) := by
  refine Met.ofW (cc := cX0_setArmature) (maxL := 4) (ret := (some .int)) (by decide) rfl ?_
  intro p e s m args below meth c s₁ B hml hv
  obtain ⟨rfl, hP, hK⟩ := hv
  have hx := B.exec
  have hb := B.bytes
  have hr := B.returns
  have hts := atoms_spec (ws := wsX0_setArmature) B.pre
  have hown : s.vm.findClass RX0 = some m.cls := findClass_of_methodNamed B.named
  have hlocks := B.notSynchronized
  have hin : ∀ w ∈ wsX00, w ∈ wsX0_setArmature := fun w h => List.mem_cons_of_mem _ (List.mem_append_right _ h)
  have hf_21 := hts (.fieldLink RX0 21 "ArmatureWinding" "coils" "I") (by decide +kernel)
  have hl := lv_entry ([.ref o, .int (zI a), .int (zI b), .int (zI k)]) (n := 4) (Nat.le_of_ble_eq_true rfl)
  rw [lg_entry_eq]
  generalize (lg_sl ([.ref o, .int (zI a), .int (zI b), .int (zI k)]) ++ List.replicate (4 - (lg_sl ([.ref o, .int (zI a), .int (zI b), .int (zI k)])).length) Slot.unset).toArray = ls at hl ⊢
  have hl : lv_has ls 4 [(0, .ref o), (1, .int (zI a)), (2, .int (zI b)), (3, .int (zI k))] := hl
  refine lv_iload_n hx hb dX0_setArmature_0 rfl (lv_at hl 1 rfl) ?_
  refine zb_iconst hx hb dX0_setArmature_1 ?_
  refine zb_clt (tgt := 17) hx hb dX0_setArmature_2 (by decide) (by omega) (by omega) (fun c2 => ?_) (fun c2 => ?_)
  · skip
    refine zb_sipush hx hb dX0_setArmature_17 (by decide) ?_
    exact aw_iret hx hb hr hlocks dX0_setArmature_20 (by first | rfl | omega)
  · skip
    refine lv_iload_n hx hb dX0_setArmature_5 rfl (lv_at hl 1 rfl) ?_
    refine zb_bipush hx hb dX0_setArmature_6 (by decide) ?_
    refine zb_cgt (tgt := 17) hx hb dX0_setArmature_8 (by decide) (by omega) (by omega) (fun c8 => ?_) (fun c8 => ?_)
    · skip
      refine zb_sipush hx hb dX0_setArmature_17 (by decide) ?_
      exact aw_iret hx hb hr hlocks dX0_setArmature_20 (by first | rfl | omega)
    · skip
      refine lv_iload_n hx hb dX0_setArmature_11 rfl (lv_at hl 1 rfl) ?_
      refine zb_iconst hx hb dX0_setArmature_12 ?_
      refine zb_rem hx hb dX0_setArmature_13 (by omega) (by omega) ?_
      refine zb_ieq (tgt := 21) hx hb dX0_setArmature_14 (by decide) (by omega) (fun c14 => ?_) (fun c14 => ?_)
      · skip
        refine lv_iload_n hx hb dX0_setArmature_21 rfl (lv_at hl 2 rfl) ?_
        refine lv_iload_n hx hb dX0_setArmature_22 rfl (lv_at hl 1 rfl) ?_
        refine zb_clt (tgt := 32) hx hb dX0_setArmature_23 (by decide) (by omega) (by omega) (fun c23 => ?_) (fun c23 => ?_)
        · skip
          refine zb_sipush hx hb dX0_setArmature_32 (by decide) ?_
          exact aw_iret hx hb hr hlocks dX0_setArmature_35 (by first | rfl | omega)
        · skip
          refine lv_iload_n hx hb dX0_setArmature_26 rfl (lv_at hl 2 rfl) ?_
          refine zb_bipush hx hb dX0_setArmature_27 (by decide) ?_
          refine zb_cle (tgt := 36) hx hb dX0_setArmature_29 (by decide) (by omega) (by omega) (fun c29 => ?_) (fun c29 => ?_)
          · skip
            refine lv_iload_n hx hb dX0_setArmature_36 rfl (lv_at hl 3 rfl) ?_
            refine zb_iconst hx hb dX0_setArmature_37 ?_
            refine zb_clt (tgt := 46) hx hb dX0_setArmature_38 (by decide) (by omega) (by omega) (fun c38 => ?_) (fun c38 => ?_)
            · skip
              refine zb_sipush hx hb dX0_setArmature_46 (by decide) ?_
              exact aw_iret hx hb hr hlocks dX0_setArmature_49 (by first | rfl | omega)
            · skip
              refine lv_iload_n hx hb dX0_setArmature_41 rfl (lv_at hl 3 rfl) ?_
              refine zb_iconst hx hb dX0_setArmature_42 ?_
              refine zb_cle (tgt := 50) hx hb dX0_setArmature_43 (by decide) (by omega) (by omega) (fun c43 => absurd c43 (by omega)) (fun c43 => ?_)
              refine zb_sipush hx hb dX0_setArmature_46 (by decide) ?_
              exact aw_iret hx hb hr hlocks dX0_setArmature_49 (by first | rfl | omega)
          · skip
            refine zb_sipush hx hb dX0_setArmature_32 (by decide) ?_
            exact aw_iret hx hb hr hlocks dX0_setArmature_35 (by first | rfl | omega)
      · skip
        refine zb_sipush hx hb dX0_setArmature_17 (by decide) ?_
        exact aw_iret hx hb hr hlocks dX0_setArmature_20 (by first | rfl | omega)
set_option maxHeartbeats 4000000 in
set_option maxRecDepth 100000 in
/-- setWinding(t, x, b), out of range -/
theorem k_setWinding_oor {t x b : Int} (ht : -1000 ≤ t ∧ t ≤ 1000) (hx3 : -1000 ≤ x ∧ x ≤ 1000) (hno : ¬ ((t = 0 ∨ t = 1) ∧ 1 ≤ x ∧ x ≤ 3)) : aw_RO l yX0_setWinding wsX0_setWinding (aw_rm 2 43) D (aw_T yZ yI) (aw_W3 yZ yI o oa ba P S K N ty px pr w ch ob g) [.ref o, .int (zI t), .int (zI x), .int (zI b)] (-1001) := by
  refine Met.ofW (cc := cX0_setWinding) (maxL := 5) (ret := (some .int)) (by decide) rfl ?_
  intro p e s m args below meth c s₁ B hml hv
  obtain ⟨rfl, hP, hK⟩ := hv
  have hx := B.exec
  have hb := B.bytes
  have hr := B.returns
  have hts := atoms_spec (ws := wsX0_setWinding) B.pre
  have hown : s.vm.findClass RX0 = some m.cls := findClass_of_methodNamed B.named
  have hlocks := B.notSynchronized
  have hin : ∀ w ∈ wsX00, w ∈ wsX0_setWinding := fun w h => List.mem_cons_of_mem _ (List.mem_append_right _ h)
  have hf_37 := hts (.fieldLink RX0 37 "ArmatureWinding" "pitch" "I") (by decide +kernel)
  have hl := lv_entry ([.ref o, .int (zI t), .int (zI x), .int (zI b)]) (n := 5) (Nat.le_of_ble_eq_true rfl)
  rw [lg_entry_eq]
  generalize (lg_sl ([.ref o, .int (zI t), .int (zI x), .int (zI b)]) ++ List.replicate (5 - (lg_sl ([.ref o, .int (zI t), .int (zI x), .int (zI b)])).length) Slot.unset).toArray = ls at hl ⊢
  have hl : lv_has ls 5 [(0, .ref o), (1, .int (zI t)), (2, .int (zI x)), (3, .int (zI b))] := hl
  refine lv_iload_n hx hb dX0_setWinding_0 rfl (lv_at hl 1 rfl) ?_
  refine zb_ieq (tgt := 13) hx hb dX0_setWinding_1 (by decide) (by omega) (fun c1 => ?_) (fun c1 => ?_)
  · skip
    refine lv_iload_n hx hb dX0_setWinding_13 rfl (lv_at hl 2 rfl) ?_
    refine zb_iconst hx hb dX0_setWinding_14 ?_
    refine zb_clt (tgt := 23) hx hb dX0_setWinding_15 (by decide) (by omega) (by omega) (fun c15 => ?_) (fun c15 => ?_)
    · skip
      refine zb_sipush hx hb dX0_setWinding_23 (by decide) ?_
      exact aw_iret hx hb hr hlocks dX0_setWinding_26 (by first | rfl | omega)
    · skip
      refine lv_iload_n hx hb dX0_setWinding_18 rfl (lv_at hl 2 rfl) ?_
      refine zb_iconst hx hb dX0_setWinding_19 ?_
      refine zb_cle (tgt := 27) hx hb dX0_setWinding_20 (by decide) (by omega) (by omega) (fun c20 => absurd c20 (by omega)) (fun c20 => ?_)
      refine zb_sipush hx hb dX0_setWinding_23 (by decide) ?_
      exact aw_iret hx hb hr hlocks dX0_setWinding_26 (by first | rfl | omega)
  · skip
    refine lv_iload_n hx hb dX0_setWinding_4 rfl (lv_at hl 1 rfl) ?_
    refine zb_iconst hx hb dX0_setWinding_5 ?_
    refine zb_ceq (tgt := 13) hx hb dX0_setWinding_6 (by decide) (by omega) (by omega) (fun c6 => ?_) (fun c6 => ?_)
    · skip
      refine lv_iload_n hx hb dX0_setWinding_13 rfl (lv_at hl 2 rfl) ?_
      refine zb_iconst hx hb dX0_setWinding_14 ?_
      refine zb_clt (tgt := 23) hx hb dX0_setWinding_15 (by decide) (by omega) (by omega) (fun c15 => ?_) (fun c15 => ?_)
      · skip
        refine zb_sipush hx hb dX0_setWinding_23 (by decide) ?_
        exact aw_iret hx hb hr hlocks dX0_setWinding_26 (by first | rfl | omega)
      · skip
        refine lv_iload_n hx hb dX0_setWinding_18 rfl (lv_at hl 2 rfl) ?_
        refine zb_iconst hx hb dX0_setWinding_19 ?_
        refine zb_cle (tgt := 27) hx hb dX0_setWinding_20 (by decide) (by omega) (by omega) (fun c20 => absurd c20 (by omega)) (fun c20 => ?_)
        refine zb_sipush hx hb dX0_setWinding_23 (by decide) ?_
        exact aw_iret hx hb hr hlocks dX0_setWinding_26 (by first | rfl | omega)
    · skip
      refine zb_sipush hx hb dX0_setWinding_9 (by decide) ?_
      exact aw_iret hx hb hr hlocks dX0_setWinding_12 (by first | rfl | omega)
set_option maxHeartbeats 4000000 in
set_option maxRecDepth 100000 in
/-- setWinding(t, x, b), not possible -/
theorem k_setWinding_np (hP1 : 2 ≤ P ∧ P ≤ 8) (hN1 : 0 ≤ N ∧ N ≤ 72) {t x b h : Int} (ht : t = 1) (hx3 : 1 ≤ x ∧ x ≤ 3) (hb3 : b = 1 ∧ h = x ∨ b = 0 ∧ h = -x) (hno : ¬ (N + h).tdiv (P / 2) * (P / 2) = N + h) : aw_RO l yX0_setWinding wsX0_setWinding (aw_rm 2 43) D (aw_T yZ yI) (aw_W3 yZ yI o oa ba P S K N ty px pr w ch ob g) [.ref o, .int (zI t), .int (zI x), .int (zI b)] (-1003) := by
  refine Met.ofW (cc := cX0_setWinding) (maxL := 5) (ret := (some .int)) (by decide) rfl ?_
  intro p e s m args below meth c s₁ B hml hv
  obtain ⟨rfl, hP, hK⟩ := hv
  have hx := B.exec
  have hb := B.bytes
  have hr := B.returns
  have hts := atoms_spec (ws := wsX0_setWinding) B.pre
  have hown : s.vm.findClass RX0 = some m.cls := findClass_of_methodNamed B.named
  have hlocks := B.notSynchronized
  have hin : ∀ w ∈ wsX00, w ∈ wsX0_setWinding := fun w h => List.mem_cons_of_mem _ (List.mem_append_right _ h)
  have hf_37 := hts (.fieldLink RX0 37 "ArmatureWinding" "pitch" "I") (by decide +kernel)
  have hl := lv_entry ([.ref o, .int (zI t), .int (zI x), .int (zI b)]) (n := 5) (Nat.le_of_ble_eq_true rfl)
  rw [lg_entry_eq]
  generalize (lg_sl ([.ref o, .int (zI t), .int (zI x), .int (zI b)]) ++ List.replicate (5 - (lg_sl ([.ref o, .int (zI t), .int (zI x), .int (zI b)])).length) Slot.unset).toArray = ls at hl ⊢
  have hl : lv_has ls 5 [(0, .ref o), (1, .int (zI t)), (2, .int (zI x)), (3, .int (zI b))] := hl
  have hw := aw_b_f (decide_eq_false hno)
  refine lv_iload_n hx hb dX0_setWinding_0 rfl (lv_at hl 1 rfl) ?_
  refine zb_ieq (tgt := 13) hx hb dX0_setWinding_1 (by decide) (by omega) (fun c1 => absurd c1 (by omega)) (fun c1 => ?_)
  refine lv_iload_n hx hb dX0_setWinding_4 rfl (lv_at hl 1 rfl) ?_
  refine zb_iconst hx hb dX0_setWinding_5 ?_
  refine zb_ceq (tgt := 13) hx hb dX0_setWinding_6 (by decide) (by omega) (by omega) (fun c6 => ?_) (fun c6 => absurd c6 (by omega))
  refine lv_iload_n hx hb dX0_setWinding_13 rfl (lv_at hl 2 rfl) ?_
  refine zb_iconst hx hb dX0_setWinding_14 ?_
  refine zb_clt (tgt := 23) hx hb dX0_setWinding_15 (by decide) (by omega) (by omega) (fun c15 => absurd c15 (by omega)) (fun c15 => ?_)
  refine lv_iload_n hx hb dX0_setWinding_18 rfl (lv_at hl 2 rfl) ?_
  refine zb_iconst hx hb dX0_setWinding_19 ?_
  refine zb_cle (tgt := 27) hx hb dX0_setWinding_20 (by decide) (by omega) (by omega) (fun c20 => ?_) (fun c20 => absurd c20 (by omega))
  refine lv_iload_n hx hb dX0_setWinding_27 rfl (lv_at hl 3 rfl) ?_
  refine zb_join (fun j => h = j) (pcj := 37) (lj := ls) (rj := []) (fun j hj => ?_) (fun hj37 => ?_)
  rotate_left
  · skip
    refine zb_ieq (tgt := 35) hx hb dX0_setWinding_28 (by decide) (by omega) (fun c28 => ?_) (fun c28 => ?_)
    · skip
      refine lv_iload_n hx hb dX0_setWinding_35 rfl (lv_at hl 2 rfl) ?_
      refine zb_neg hx hb dX0_setWinding_36 ?_
      exact hj37 (-x) (by omega)
    · skip
      refine lv_iload_n hx hb dX0_setWinding_31 rfl (lv_at hl 2 rfl) ?_
      refine lv_goto (tgt := 37) hx hb dX0_setWinding_32 (by decide) ?_
      exact hj37 x (by omega)
  · skip
    subst hj
    refine lv_istore (lv' := [(4, .int (zI h)), (0, .ref o), (1, .int (zI t)), (2, .int (zI x)), (3, .int (zI b))]) hx hb dX0_setWinding_37 hl (by decide) rfl (fun ls hl => ?_)
    refine lv_iload_n hx hb dX0_setWinding_39 rfl (lv_at hl 2 rfl) ?_
    refine zb_iconst hx hb dX0_setWinding_40 ?_
    refine zb_cne (tgt := 57) hx hb dX0_setWinding_41 (by decide) (by omega) (by omega) (fun c41 => absurd c41 (by omega)) (fun c41 => ?_)
    refine lv_aload_n hx hb dX0_setWinding_44 rfl (lv_at hl 1 rfl) ?_
    refine lv_iload hx hb dX0_setWinding_45 (lv_at hl 0 rfl) ?_
    refine aw_callV (As := [.int (zI h)]) (rest := []) ⟨hx, hb, hml, hown, hts⟩ (k_isWavePossible (x := h) hP1 hN1 ⟨by omega, by omega⟩) (cwV 1 hts gX0_setWinding_X0_isWavePossible rfl rfl rfl (by decide +kernel) ⟨Nat.le_of_ble_eq_true rfl, Nat.le_of_ble_eq_true rfl⟩) hP hK rfl rfl rfl hl.1 rfl (Nat.le_of_ble_eq_true rfl) dX0_setWinding_47 ⟨Nat.zero_le _, Nat.zero_le _⟩ ?_
    refine zb_ine (tgt := 57) hx hb dX0_setWinding_50 (by decide) (by omega) (fun c50 => absurd c50 (by omega)) (fun c50 => ?_)
    refine zb_sipush hx hb dX0_setWinding_53 (by decide) ?_
    exact aw_iret hx hb hr hlocks dX0_setWinding_56 (by first | rfl | omega)
set_option maxHeartbeats 4000000 in
set_option maxRecDepth 100000 in
/-- setChording(x), out of range -/
theorem k_setChording_no {x : Int} (hx3 : -1000 ≤ x ∧ x ≤ 1000) (hno : x < 0 ∨ 5 < x) : aw_RO l yX0_setChording wsX0_setChording (aw_rm 0 0) D (aw_T yZ yI) (aw_W3 yZ yI o oa ba P S K N ty px pr w ch ob g) [.ref o, .int (zI x)] (-1001) := by
  refine Met.ofW (cc := cX0_setChording) (maxL := 3) (ret := (some .int)) (by decide) rfl ?_
  intro p e s m args below meth c s₁ B hml hv
  obtain ⟨rfl, hP, hK⟩ := hv
  have hx := B.exec
  have hb := B.bytes
  have hr := B.returns
  have hts := atoms_spec (ws := wsX0_setChording) B.pre
  have hown : s.vm.findClass RX0 = some m.cls := findClass_of_methodNamed B.named
  have hlocks := B.notSynchronized
  have hin : ∀ w ∈ wsX00, w ∈ wsX0_setChording := fun w h => List.mem_cons_of_mem _ (List.mem_append_right _ h)
  have hf_40 := hts (.fieldLink RX0 40 "ArmatureWinding" "chording" "I") (by decide +kernel)
  have hl := lv_entry ([.ref o, .int (zI x)]) (n := 3) (Nat.le_of_ble_eq_true rfl)
  rw [lg_entry_eq]
  generalize (lg_sl ([.ref o, .int (zI x)]) ++ List.replicate (3 - (lg_sl ([.ref o, .int (zI x)])).length) Slot.unset).toArray = ls at hl ⊢
  have hl : lv_has ls 3 [(0, .ref o), (1, .int (zI x))] := hl
  refine lv_iload_n hx hb dX0_setChording_0 rfl (lv_at hl 1 rfl) ?_
  refine zb_ilt (tgt := 9) hx hb dX0_setChording_1 (by decide) (by omega) (fun c1 => ?_) (fun c1 => ?_)
  · skip
    refine zb_sipush hx hb dX0_setChording_9 (by decide) ?_
    exact aw_iret hx hb hr hlocks dX0_setChording_12 (by first | rfl | omega)
  · skip
    refine lv_iload_n hx hb dX0_setChording_4 rfl (lv_at hl 1 rfl) ?_
    refine zb_iconst hx hb dX0_setChording_5 ?_
    refine zb_cle (tgt := 13) hx hb dX0_setChording_6 (by decide) (by omega) (by omega) (fun c6 => absurd c6 (by omega)) (fun c6 => ?_)
    refine zb_sipush hx hb dX0_setChording_9 (by decide) ?_
    exact aw_iret hx hb hr hlocks dX0_setChording_12 (by first | rfl | omega)
set_option maxHeartbeats 4000000 in
set_option maxRecDepth 100000 in
/-- setOpen(q, b), no such coil -/
theorem k_setOpen_no (hN1 : 0 ≤ N ∧ N ≤ 72) {q b : Int} (hq : -1000 ≤ q ∧ q ≤ 1000) (hno : q < 0 ∨ N ≤ q) : aw_RO l yX0_setOpen wsX0_setOpen (aw_rm 2 42) D (aw_T yZ yI) (aw_W3 yZ yI o oa ba P S K N ty px pr w ch ob g) [.ref o, .int (zI q), .int (zI b)] (-1002) := by
  refine Met.ofW (cc := cX0_setOpen) (maxL := 4) (ret := (some .int)) (by decide) rfl ?_
  intro p e s m args below meth c s₁ B hml hv
  obtain ⟨rfl, hP, hK⟩ := hv
  have hx := B.exec
  have hb := B.bytes
  have hr := B.returns
  have hts := atoms_spec (ws := wsX0_setOpen) B.pre
  have hown : s.vm.findClass RX0 = some m.cls := findClass_of_methodNamed B.named
  have hlocks := B.notSynchronized
  have hin : ∀ w ∈ wsX00, w ∈ wsX0_setOpen := fun w h => List.mem_cons_of_mem _ (List.mem_append_right _ h)
  have hf_9 := hts (.fieldLink RX0 9 "ArmatureWinding" "open" "[Z") (by decide +kernel)
  have hf_21 := hts (.fieldLink RX0 21 "ArmatureWinding" "coils" "I") (by decide +kernel)
  have hl := lv_entry ([.ref o, .int (zI q), .int (zI b)]) (n := 4) (Nat.le_of_ble_eq_true rfl)
  rw [lg_entry_eq]
  generalize (lg_sl ([.ref o, .int (zI q), .int (zI b)]) ++ List.replicate (4 - (lg_sl ([.ref o, .int (zI q), .int (zI b)])).length) Slot.unset).toArray = ls at hl ⊢
  have hl : lv_has ls 4 [(0, .ref o), (1, .int (zI q)), (2, .int (zI b))] := hl
  refine lv_iload_n hx hb dX0_setOpen_0 rfl (lv_at hl 1 rfl) ?_
  refine zb_ilt (tgt := 21) hx hb dX0_setOpen_1 (by decide) (by omega) (fun c1 => ?_) (fun c1 => ?_)
  · skip
    refine zb_sipush hx hb dX0_setOpen_21 (by decide) ?_
    exact aw_iret hx hb hr hlocks dX0_setOpen_24 (by first | rfl | omega)
  · skip
    refine lv_iload_n hx hb dX0_setOpen_4 rfl (lv_at hl 1 rfl) ?_
    refine lv_aload_n hx hb dX0_setOpen_5 rfl (lv_at hl 0 rfl) ?_
    refine va_get (D := D) (ci := 0) (v := .int (zI N)) (C := RX0) (T := TX0) (N := 11) hx hb hts hin hown hK hP 0 rfl rfl 3 (by decide) hf_21 (fun _ h9 => h9) rfl dX0_setOpen_6 ?_
    refine zb_cge (tgt := 21) hx hb dX0_setOpen_9 (by decide) (by omega) (by omega) (fun c9 => ?_) (fun c9 => absurd c9 (by omega))
    refine zb_sipush hx hb dX0_setOpen_21 (by decide) ?_
    exact aw_iret hx hb hr hlocks dX0_setOpen_24 (by first | rfl | omega)
end
