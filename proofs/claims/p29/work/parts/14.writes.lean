section
variable {l : Launch} {D : va_G} {yZ yI : ClassId} {o oa ba da pa : Nat} {P S K N w ch : Int} {ty px pr : Int32} {ob : Int → Bool} {g pf : Nat → Int32} {dv : Nat → Int}
set_option maxHeartbeats 4000000 in
set_option maxRecDepth 100000 in
/-- layWinding(t, x, b, y) -/
theorem k_layWinding {t x b y : Int} (hb3 : b = 0 ∨ b = 1) : aw_MU (S := Unit) l yX0_layWinding wsX0_layWinding (aw_rm 0 0) D (aw_T yZ yI) [(o, .inr (0, [.int (zI P), .int (zI S), .int (zI K), .int (zI N), .int ty, .int px, .int pr, .int (zI w), .int (zI ch), .ref oa, .ref ba])), (oa, .inl (yZ, 72, .inl (aw_f ob))), (ba, .inl (yI, 72, .inl g))] [.ref o, .int (zI t), .int (zI x), .int (zI b), .int (zI y)] none (fun _ => True) (fun _ => aw_W3 yZ yI o oa ba P S K N (zI t) (zI x) (zI b) y ch ob g) := by
  intro sz
  refine Met.ofW (cc := cX0_layWinding) (maxL := 5) (ret := none) (by decide) rfl ?_
  intro p e s m args below meth c s₁ B hml hv
  obtain ⟨rfl, hsz, hP, hK, hD0⟩ := hv
  have hx := B.exec
  have hb := B.bytes
  have hr := B.returns
  have hts := atoms_spec (ws := wsX0_layWinding) B.pre
  have hown : s.vm.findClass RX0 = some m.cls := findClass_of_methodNamed B.named
  have hlocks := B.notSynchronized
  subst hsz
  have hD := hD0.self (sz := s.heap.size)
  have hA : ∀ q : Nat, s.heap.size ≤ q → va_A [(o, .inr (0, [.int (zI P), .int (zI S), .int (zI K), .int (zI N), .int ty, .int px, .int pr, .int (zI w), .int (zI ch), .ref oa, .ref ba])), (oa, .inl (yZ, 72, .inl (aw_f ob))), (ba, .inl (yI, 72, .inl g))] s.heap.size q := fun q h => Or.inr h
  have hS : va_S (va_A [(o, .inr (0, [.int (zI P), .int (zI S), .int (zI K), .int (zI N), .int ty, .int px, .int pr, .int (zI w), .int (zI ch), .ref oa, .ref ba])), (oa, .inl (yZ, 72, .inl (aw_f ob))), (ba, .inl (yI, 72, .inl g))] s.heap.size) s.heap s.heap [] := va_S.rf
  have hin : ∀ w ∈ wsX00, w ∈ wsX0_layWinding := fun w h => List.mem_cons_of_mem _ (List.mem_append_right _ h)
  have hf_37 := hts (.fieldLink RX0 37 "ArmatureWinding" "pitch" "I") (by decide +kernel)
  have hf_58 := hts (.fieldLink RX0 58 "ArmatureWinding" "type" "I") (by decide +kernel)
  have hf_61 := hts (.fieldLink RX0 61 "ArmatureWinding" "plex" "I") (by decide +kernel)
  have hf_64 := hts (.fieldLink RX0 64 "ArmatureWinding" "progressive" "Z") (by decide +kernel)
  have hl := lv_entry ([.ref o, .int (zI t), .int (zI x), .int (zI b), .int (zI y)]) (n := 5) (Nat.le_of_ble_eq_true rfl)
  rw [lg_entry_eq]
  generalize (lg_sl ([.ref o, .int (zI t), .int (zI x), .int (zI b), .int (zI y)]) ++ List.replicate (5 - (lg_sl ([.ref o, .int (zI t), .int (zI x), .int (zI b), .int (zI y)])).length) Slot.unset).toArray = ls at hl ⊢
  have hl : lv_has ls 5 [(0, .ref o), (1, .int (zI t)), (2, .int (zI x)), (3, .int (zI b)), (4, .int (zI y))] := hl
  refine lv_aload_n hx hb dX0_layWinding_0 rfl (lv_at hl 0 rfl) ?_
  refine lv_iload_n hx hb dX0_layWinding_1 rfl (lv_at hl 1 rfl) ?_
  refine va_put (D := D) (ci := 0) (v := .int (zI t)) (ty := .int) (C := RX0) (T := TX0) (N := 11) hx hb hts hin tyX0 tyX0_ok nmX0 hown hK hP hD hS 0 rfl rfl 4 (by decide) hf_58 (fun _ h9 => h9) rfl (by decide +kernel) rfl rfl (Nat.le_of_ble_eq_true rfl) dX0_layWinding_2 (fun H locs hP hD hS => ?_)
  have hP : va_P D vwCl [(o, .inr (0, [.int (zI P), .int (zI S), .int (zI K), .int (zI N), .int (zI t), .int px, .int pr, .int (zI w), .int (zI ch), .ref oa, .ref ba])), (oa, .inl (yZ, 72, .inl (aw_f ob))), (ba, .inl (yI, 72, .inl g))] H := hP
  have hD : va_D _ [(o, .inr (0, [.int (zI P), .int (zI S), .int (zI K), .int (zI N), .int (zI t), .int px, .int pr, .int (zI w), .int (zI ch), .ref oa, .ref ba])), (oa, .inl (yZ, 72, .inl (aw_f ob))), (ba, .inl (yI, 72, .inl g))] := hD
  refine lv_aload_n hx hb dX0_layWinding_5 rfl (lv_at hl 0 rfl) ?_
  refine lv_iload_n hx hb dX0_layWinding_6 rfl (lv_at hl 2 rfl) ?_
  refine va_put (D := D) (ci := 0) (v := .int (zI x)) (ty := .int) (C := RX0) (T := TX0) (N := 11) hx hb hts hin tyX0 tyX0_ok nmX0 hown hK hP hD hS 0 rfl rfl 5 (by decide) hf_61 (fun _ h9 => h9) rfl (by decide +kernel) rfl rfl (Nat.le_of_ble_eq_true rfl) dX0_layWinding_7 (fun H locs hP hD hS => ?_)
  have hP : va_P D vwCl [(o, .inr (0, [.int (zI P), .int (zI S), .int (zI K), .int (zI N), .int (zI t), .int (zI x), .int pr, .int (zI w), .int (zI ch), .ref oa, .ref ba])), (oa, .inl (yZ, 72, .inl (aw_f ob))), (ba, .inl (yI, 72, .inl g))] H := hP
  have hD : va_D _ [(o, .inr (0, [.int (zI P), .int (zI S), .int (zI K), .int (zI N), .int (zI t), .int (zI x), .int pr, .int (zI w), .int (zI ch), .ref oa, .ref ba])), (oa, .inl (yZ, 72, .inl (aw_f ob))), (ba, .inl (yI, 72, .inl g))] := hD
  refine lv_aload_n hx hb dX0_layWinding_10 rfl (lv_at hl 0 rfl) ?_
  refine lv_iload_n hx hb dX0_layWinding_11 rfl (lv_at hl 3 rfl) ?_
  refine va_put (D := D) (ci := 0) (v := .int (zI b)) (ty := .boolean) (C := RX0) (T := TX0) (N := 11) hx hb hts hin tyX0 tyX0_ok nmX0 hown hK hP hD hS 0 rfl rfl 6 (by decide) hf_64 (fun _ h9 => h9) rfl (by decide +kernel) (by rcases hb3 with rfl | rfl <;> decide) (by rcases hb3 with rfl | rfl <;> decide) (Nat.le_of_ble_eq_true rfl) dX0_layWinding_12 (fun H locs hP hD hS => ?_)
  have hP : va_P D vwCl [(o, .inr (0, [.int (zI P), .int (zI S), .int (zI K), .int (zI N), .int (zI t), .int (zI x), .int (zI b), .int (zI w), .int (zI ch), .ref oa, .ref ba])), (oa, .inl (yZ, 72, .inl (aw_f ob))), (ba, .inl (yI, 72, .inl g))] H := hP
  have hD : va_D _ [(o, .inr (0, [.int (zI P), .int (zI S), .int (zI K), .int (zI N), .int (zI t), .int (zI x), .int (zI b), .int (zI w), .int (zI ch), .ref oa, .ref ba])), (oa, .inl (yZ, 72, .inl (aw_f ob))), (ba, .inl (yI, 72, .inl g))] := hD
  refine lv_aload_n hx hb dX0_layWinding_15 rfl (lv_at hl 0 rfl) ?_
  refine lv_iload hx hb dX0_layWinding_16 (lv_at hl 4 rfl) ?_
  refine va_put (D := D) (ci := 0) (v := .int (zI y)) (ty := .int) (C := RX0) (T := TX0) (N := 11) hx hb hts hin tyX0 tyX0_ok nmX0 hown hK hP hD hS 0 rfl rfl 7 (by decide) hf_37 (fun _ h9 => h9) rfl (by decide +kernel) rfl rfl (Nat.le_of_ble_eq_true rfl) dX0_layWinding_18 (fun H locs hP hD hS => ?_)
  have hP : va_P D vwCl [(o, .inr (0, [.int (zI P), .int (zI S), .int (zI K), .int (zI N), .int (zI t), .int (zI x), .int (zI b), .int (zI y), .int (zI ch), .ref oa, .ref ba])), (oa, .inl (yZ, 72, .inl (aw_f ob))), (ba, .inl (yI, 72, .inl g))] H := hP
  have hD : va_D _ [(o, .inr (0, [.int (zI P), .int (zI S), .int (zI K), .int (zI N), .int (zI t), .int (zI x), .int (zI b), .int (zI y), .int (zI ch), .ref oa, .ref ba])), (oa, .inl (yZ, 72, .inl (aw_f ob))), (ba, .inl (yI, 72, .inl g))] := hD
  exact aw_vretM () hx hb hr hlocks dX0_layWinding_21 trivial hP hK hD hS
set_option maxHeartbeats 4000000 in
set_option maxRecDepth 100000 in
/-- placeBrushes(): the row of brushes holds something -/
theorem k_placeBrushes (hP1 : 1 ≤ P ∧ P ≤ 8) (hN1 : 0 ≤ N ∧ N ≤ 72) : aw_MU (S := Nat → Int32) l yX0_placeBrushes wsX0_placeBrushes (aw_rm 1 21) D (aw_T yZ yI) [(o, .inr (0, [.int (zI P), .int (zI S), .int (zI K), .int (zI N), .int ty, .int px, .int pr, .int (zI w), .int (zI ch), .ref oa, .ref ba])), (oa, .inl (yZ, 72, .inl (aw_f ob))), (ba, .inl (yI, 72, .inl g))] [.ref o] none (fun _ => True) (fun u => aw_W3 yZ yI o oa ba P S K N ty px pr w ch ob u) := by
  intro sz
  refine Met.ofW (cc := cX0_placeBrushes) (maxL := 3) (ret := none) (by decide) rfl ?_
  intro p e s m args below meth c s₁ B hml hv
  obtain ⟨rfl, hsz, hP, hK, hD0⟩ := hv
  have hx := B.exec
  have hb := B.bytes
  have hr := B.returns
  have hts := atoms_spec (ws := wsX0_placeBrushes) B.pre
  have hown : s.vm.findClass RX0 = some m.cls := findClass_of_methodNamed B.named
  have hlocks := B.notSynchronized
  subst hsz
  have hD := hD0.self (sz := s.heap.size)
  have hA : ∀ q : Nat, s.heap.size ≤ q → va_A [(o, .inr (0, [.int (zI P), .int (zI S), .int (zI K), .int (zI N), .int ty, .int px, .int pr, .int (zI w), .int (zI ch), .ref oa, .ref ba])), (oa, .inl (yZ, 72, .inl (aw_f ob))), (ba, .inl (yI, 72, .inl g))] s.heap.size q := fun q h => Or.inr h
  have hS : va_S (va_A [(o, .inr (0, [.int (zI P), .int (zI S), .int (zI K), .int (zI N), .int ty, .int px, .int pr, .int (zI w), .int (zI ch), .ref oa, .ref ba])), (oa, .inl (yZ, 72, .inl (aw_f ob))), (ba, .inl (yI, 72, .inl g))] s.heap.size) s.heap s.heap [] := va_S.rf
  have hin : ∀ w ∈ wsX00, w ∈ wsX0_placeBrushes := fun w h => List.mem_cons_of_mem _ (List.mem_append_right _ h)
  have hf_13 := hts (.fieldLink RX0 13 "ArmatureWinding" "brushOnBar" "[I") (by decide +kernel)
  have hf_46 := hts (.fieldLink RX0 46 "ArmatureWinding" "poles" "I") (by decide +kernel)
  have hl := lv_entry ([.ref o]) (n := 3) (Nat.le_of_ble_eq_true rfl)
  rw [lg_entry_eq]
  generalize (lg_sl ([.ref o]) ++ List.replicate (3 - (lg_sl ([.ref o])).length) Slot.unset).toArray = ls at hl ⊢
  have hl : lv_has ls 3 [(0, .ref o)] := hl
  refine zb_iconst hx hb dX0_placeBrushes_0 ?_
  refine lv_istore_n (lv' := [(1, .int (zI 0)), (0, .ref o)]) hx hb dX0_placeBrushes_1 rfl hl (by decide) rfl (fun ls hl => ?_)
  refine zb_lpm (nL := 3) (τ := Nat → Int32) (fun z g2 => 0 ≤ z ∧ z ≤ 72) (fun z => [(1, .int (zI z)), (0, .ref o)]) (fun g2 => [(o, .inr (0, [.int (zI P), .int (zI S), .int (zI K), .int (zI N), .int ty, .int px, .int pr, .int (zI w), .int (zI ch), .ref oa, .ref ba])), (oa, .inl (yZ, 72, .inl (aw_f ob))), (ba, .inl (yI, 72, .inl g2))]) (fun z => 72 - z) 0 g ⟨by omega, by omega⟩ (lv_sub hl [0, 1] rfl) hP hD hS ?_
  intro z g2 H locs ls hJ2 hl hP hD hS ih2
  have hJ2 : 0 ≤ z ∧ z ≤ 72 := hJ2
  have hl : lv_has ls 3 [(1, .int (zI z)), (0, .ref o)] := hl
  have hP : va_P D vwCl [(o, .inr (0, [.int (zI P), .int (zI S), .int (zI K), .int (zI N), .int ty, .int px, .int pr, .int (zI w), .int (zI ch), .ref oa, .ref ba])), (oa, .inl (yZ, 72, .inl (aw_f ob))), (ba, .inl (yI, 72, .inl g2))] H := hP
  have hD : va_D _ [(o, .inr (0, [.int (zI P), .int (zI S), .int (zI K), .int (zI N), .int ty, .int px, .int pr, .int (zI w), .int (zI ch), .ref oa, .ref ba])), (oa, .inl (yZ, 72, .inl (aw_f ob))), (ba, .inl (yI, 72, .inl g2))] := hD
  refine lv_iload_n hx hb dX0_placeBrushes_2 rfl (lv_at hl 0 rfl) ?_
  refine lv_aload_n hx hb dX0_placeBrushes_3 rfl (lv_at hl 1 rfl) ?_
  refine va_get (D := D) (ci := 0) (v := .ref ba) (C := RX0) (T := TX0) (N := 11) hx hb hts hin hown hK hP 0 rfl rfl 10 (by decide) hf_13 (fun _ h9 => h9) rfl dX0_placeBrushes_4 ?_
  refine va_alen hx hb hK hP 2 1 rfl rfl (v := zI 72) (show Int32.ofNat 72 = zI 72 from by decide) dX0_placeBrushes_7 ?_
  refine zb_cge (tgt := 26) hx hb dX0_placeBrushes_8 (by decide) (by omega) (by omega) (fun c8 => ?_) (fun c8 => ?_)
  · skip
    refine lv_aload_n hx hb dX0_placeBrushes_26 rfl (lv_at hl 1 rfl) ?_
    refine va_get (D := D) (ci := 0) (v := .int (zI P)) (C := RX0) (T := TX0) (N := 11) hx hb hts hin hown hK hP 0 rfl rfl 0 (by decide) hf_46 (fun _ h9 => h9) rfl dX0_placeBrushes_27 ?_
    refine zb_iconst hx hb dX0_placeBrushes_30 ?_
    refine zb_sub hx hb dX0_placeBrushes_31 ?_
    refine lv_istore_n (lv' := [(1, .int (zI (P - 1))), (0, .ref o)]) hx hb dX0_placeBrushes_32 rfl hl (by decide) rfl (fun ls hl => ?_)
    refine zb_lpm (nL := 3) (τ := Nat → Int32) (fun q g3 => -1 ≤ q ∧ q < P) (fun q => [(1, .int (zI q)), (0, .ref o)]) (fun g3 => [(o, .inr (0, [.int (zI P), .int (zI S), .int (zI K), .int (zI N), .int ty, .int px, .int pr, .int (zI w), .int (zI ch), .ref oa, .ref ba])), (oa, .inl (yZ, 72, .inl (aw_f ob))), (ba, .inl (yI, 72, .inl g3))]) (fun q => q + 1) (P - 1) g2 ⟨by omega, by omega⟩ (lv_sub hl [0, 1] rfl) hP hD hS ?_
    intro q g3 H locs ls hJ33 hl hP hD hS ih33
    have hJ33 : -1 ≤ q ∧ q < P := hJ33
    have hl : lv_has ls 3 [(1, .int (zI q)), (0, .ref o)] := hl
    have hP : va_P D vwCl [(o, .inr (0, [.int (zI P), .int (zI S), .int (zI K), .int (zI N), .int ty, .int px, .int pr, .int (zI w), .int (zI ch), .ref oa, .ref ba])), (oa, .inl (yZ, 72, .inl (aw_f ob))), (ba, .inl (yI, 72, .inl g3))] H := hP
    have hD : va_D _ [(o, .inr (0, [.int (zI P), .int (zI S), .int (zI K), .int (zI N), .int ty, .int px, .int pr, .int (zI w), .int (zI ch), .ref oa, .ref ba])), (oa, .inl (yZ, 72, .inl (aw_f ob))), (ba, .inl (yI, 72, .inl g3))] := hD
    refine lv_iload_n hx hb dX0_placeBrushes_33 rfl (lv_at hl 0 rfl) ?_
    refine zb_ilt (tgt := 69) hx hb dX0_placeBrushes_34 (by decide) (by omega) (fun c34 => ?_) (fun c34 => ?_)
    · skip
      exact aw_vretM g3 hx hb hr hlocks dX0_placeBrushes_69 trivial hP hK hD hS
    · skip
      have hm := aw_mul (x := q) (y := N) (a := 8) (b := 72) (by omega) (by omega) (by omega) (by omega)
      have hm0 : 0 ≤ q * N := Int.mul_nonneg (by omega) (by omega)
      have hd := aw_div (x := q * N) (n := P) hm0 (by omega)
      refine lv_aload_n hx hb dX0_placeBrushes_37 rfl (lv_at hl 1 rfl) ?_
      refine lv_iload_n hx hb dX0_placeBrushes_38 rfl (lv_at hl 0 rfl) ?_
      refine aw_callV (As := [.int (zI q)]) (rest := []) ⟨hx, hb, hml, hown, hts⟩ (k_brushBar (q := q) hP1 hN1 ⟨by omega, by omega⟩) (cwV 1 hts gX0_placeBrushes_X0_brushBar rfl rfl rfl (by decide +kernel) ⟨Nat.le_of_ble_eq_true rfl, Nat.le_of_ble_eq_true rfl⟩) hP hK rfl rfl rfl hl.1 rfl (Nat.le_of_ble_eq_true rfl) dX0_placeBrushes_39 ⟨Nat.zero_le _, Nat.zero_le _⟩ ?_
      refine lv_istore_n (lv' := [(2, .int (zI (q * N / P))), (1, .int (zI q)), (0, .ref o)]) hx hb dX0_placeBrushes_42 rfl hl (by decide) rfl (fun ls hl => ?_)
      refine lv_iload_n hx hb dX0_placeBrushes_43 rfl (lv_at hl 0 rfl) ?_
      refine zb_ilt (tgt := 63) hx hb dX0_placeBrushes_44 (by decide) (by omega) (fun c44 => ?_) (fun c44 => ?_)
      · skip
        refine zb_iinc (lv' := [(1, .int (zI (q + (-1)))), (2, .int (zI (q * N / P))), (0, .ref o)]) hx hb dX0_placeBrushes_63 hl (k := 1) rfl (by decide) rfl (fun ls hl => ?_)
        refine lv_goto (tgt := 33) hx hb dX0_placeBrushes_66 (by decide) ?_
        exact ih33 (q + (-1)) g3 H locs ls ⟨by omega, by omega⟩ (by omega) (lv_sub hl [0, 2] rfl) hP hD hS
      · skip
        refine lv_iload_n hx hb dX0_placeBrushes_47 rfl (lv_at hl 0 rfl) ?_
        refine lv_aload_n hx hb dX0_placeBrushes_48 rfl (lv_at hl 2 rfl) ?_
        refine va_get (D := D) (ci := 0) (v := .ref ba) (C := RX0) (T := TX0) (N := 11) hx hb hts hin hown hK hP 0 rfl rfl 10 (by decide) hf_13 (fun _ h9 => h9) rfl dX0_placeBrushes_49 ?_
        refine va_alen hx hb hK hP 2 1 rfl rfl (v := zI 72) (show Int32.ofNat 72 = zI 72 from by decide) dX0_placeBrushes_52 ?_
        refine zb_cge (tgt := 63) hx hb dX0_placeBrushes_53 (by decide) (by omega) (by omega) (fun c53 => ?_) (fun c53 => ?_)
        · skip
          refine zb_iinc (lv' := [(1, .int (zI (q + (-1)))), (2, .int (zI (q * N / P))), (0, .ref o)]) hx hb dX0_placeBrushes_63 hl (k := 1) rfl (by decide) rfl (fun ls hl => ?_)
          refine lv_goto (tgt := 33) hx hb dX0_placeBrushes_66 (by decide) ?_
          exact ih33 (q + (-1)) g3 H locs ls ⟨by omega, by omega⟩ (by omega) (lv_sub hl [0, 2] rfl) hP hD hS
        · skip
          refine lv_aload_n hx hb dX0_placeBrushes_56 rfl (lv_at hl 2 rfl) ?_
          refine va_get (D := D) (ci := 0) (v := .ref ba) (C := RX0) (T := TX0) (N := 11) hx hb hts hin hown hK hP 0 rfl rfl 10 (by decide) hf_13 (fun _ h9 => h9) rfl dX0_placeBrushes_57 ?_
          refine lv_iload_n hx hb dX0_placeBrushes_60 rfl (lv_at hl 0 rfl) ?_
          refine lv_iload_n hx hb dX0_placeBrushes_61 rfl (lv_at hl 1 rfl) ?_
          refine va_iast hx hb hK hP hD hS 2 1 rfl rfl (zI_in (by omega) (by omega) (by omega)) dX0_placeBrushes_62 (fun H locs hP hD hS => ?_)
          have hP : va_P D vwCl [(o, .inr (0, [.int (zI P), .int (zI S), .int (zI K), .int (zI N), .int ty, .int px, .int pr, .int (zI w), .int (zI ch), .ref oa, .ref ba])), (oa, .inl (yZ, 72, .inl (aw_f ob))), (ba, .inl (yI, 72, .inl (upd g3 (zI (q * N / P)).toNatClampNeg (zI q))))] H := hP
          have hD : va_D _ [(o, .inr (0, [.int (zI P), .int (zI S), .int (zI K), .int (zI N), .int ty, .int px, .int pr, .int (zI w), .int (zI ch), .ref oa, .ref ba])), (oa, .inl (yZ, 72, .inl (aw_f ob))), (ba, .inl (yI, 72, .inl (upd g3 (zI (q * N / P)).toNatClampNeg (zI q))))] := hD
          refine zb_iinc (lv' := [(1, .int (zI (q + (-1)))), (2, .int (zI (q * N / P))), (0, .ref o)]) hx hb dX0_placeBrushes_63 hl (k := 1) rfl (by decide) rfl (fun ls hl => ?_)
          refine lv_goto (tgt := 33) hx hb dX0_placeBrushes_66 (by decide) ?_
          exact ih33 (q + (-1)) (upd g3 (zI (q * N / P)).toNatClampNeg (zI q)) H locs ls ⟨by omega, by omega⟩ (by omega) (lv_sub hl [0, 2] rfl) hP hD hS
  · skip
    refine lv_aload_n hx hb dX0_placeBrushes_11 rfl (lv_at hl 1 rfl) ?_
    refine va_get (D := D) (ci := 0) (v := .ref ba) (C := RX0) (T := TX0) (N := 11) hx hb hts hin hown hK hP 0 rfl rfl 10 (by decide) hf_13 (fun _ h9 => h9) rfl dX0_placeBrushes_12 ?_
    refine lv_iload_n hx hb dX0_placeBrushes_15 rfl (lv_at hl 0 rfl) ?_
    refine zb_sipush hx hb dX0_placeBrushes_16 (by decide) ?_
    refine va_iast hx hb hK hP hD hS 2 1 rfl rfl (zI_in (by omega) (by omega) (by omega)) dX0_placeBrushes_19 (fun H locs hP hD hS => ?_)
    have hP : va_P D vwCl [(o, .inr (0, [.int (zI P), .int (zI S), .int (zI K), .int (zI N), .int ty, .int px, .int pr, .int (zI w), .int (zI ch), .ref oa, .ref ba])), (oa, .inl (yZ, 72, .inl (aw_f ob))), (ba, .inl (yI, 72, .inl (upd g2 (zI z).toNatClampNeg (zI ((-1004))))))] H := hP
    have hD : va_D _ [(o, .inr (0, [.int (zI P), .int (zI S), .int (zI K), .int (zI N), .int ty, .int px, .int pr, .int (zI w), .int (zI ch), .ref oa, .ref ba])), (oa, .inl (yZ, 72, .inl (aw_f ob))), (ba, .inl (yI, 72, .inl (upd g2 (zI z).toNatClampNeg (zI ((-1004))))))] := hD
    refine zb_iinc (lv' := [(1, .int (zI (z + 1))), (0, .ref o)]) hx hb dX0_placeBrushes_20 hl (k := 0) rfl (by decide) rfl (fun ls hl => ?_)
    refine lv_goto (tgt := 2) hx hb dX0_placeBrushes_23 (by decide) ?_
    exact ih2 (z + 1) (upd g2 (zI z).toNatClampNeg (zI ((-1004)))) H locs ls ⟨by omega, by omega⟩ (by omega) (lv_sub hl [0, 1] rfl) hP hD hS
set_option maxHeartbeats 4000000 in
set_option maxRecDepth 100000 in
/-- layArmature(a, b, k) -/
theorem k_layArmature {a b k : Int} (ha : 1 ≤ a ∧ a ≤ 8) (hbk : 0 ≤ b * k ∧ b * k ≤ 72) : aw_MU (S := (Int → Bool) × (Nat → Int32)) l yX0_layArmature wsX0_layArmature (aw_rm 2 43) D (aw_T yZ yI) [(o, .inr (0, [.int (zI P), .int (zI S), .int (zI K), .int (zI N), .int ty, .int px, .int pr, .int (zI w), .int (zI ch), .ref oa, .ref ba])), (oa, .inl (yZ, 72, .inl (aw_f ob))), (ba, .inl (yI, 72, .inl g))] [.ref o, .int (zI a), .int (zI b), .int (zI k)] none (fun u => ∀ z : Int, 0 ≤ z → z < 72 → u.1 z = false) (fun u => aw_W3 yZ yI o oa ba a b k (b * k) (zI 0) (zI 1) (zI 1) 1 0 (u.1) (u.2)) := by
  intro sz
  refine Met.ofW (cc := cX0_layArmature) (maxL := 5) (ret := none) (by decide) rfl ?_
  intro p e s m args below meth c s₁ B hml hv
  obtain ⟨rfl, hsz, hP, hK, hD0⟩ := hv
  have hx := B.exec
  have hb := B.bytes
  have hr := B.returns
  have hts := atoms_spec (ws := wsX0_layArmature) B.pre
  have hown : s.vm.findClass RX0 = some m.cls := findClass_of_methodNamed B.named
  have hlocks := B.notSynchronized
  subst hsz
  have hD := hD0.self (sz := s.heap.size)
  have hA : ∀ q : Nat, s.heap.size ≤ q → va_A [(o, .inr (0, [.int (zI P), .int (zI S), .int (zI K), .int (zI N), .int ty, .int px, .int pr, .int (zI w), .int (zI ch), .ref oa, .ref ba])), (oa, .inl (yZ, 72, .inl (aw_f ob))), (ba, .inl (yI, 72, .inl g))] s.heap.size q := fun q h => Or.inr h
  have hS : va_S (va_A [(o, .inr (0, [.int (zI P), .int (zI S), .int (zI K), .int (zI N), .int ty, .int px, .int pr, .int (zI w), .int (zI ch), .ref oa, .ref ba])), (oa, .inl (yZ, 72, .inl (aw_f ob))), (ba, .inl (yI, 72, .inl g))] s.heap.size) s.heap s.heap [] := va_S.rf
  have hin : ∀ w ∈ wsX00, w ∈ wsX0_layArmature := fun w h => List.mem_cons_of_mem _ (List.mem_append_right _ h)
  have hf_9 := hts (.fieldLink RX0 9 "ArmatureWinding" "open" "[Z") (by decide +kernel)
  have hf_21 := hts (.fieldLink RX0 21 "ArmatureWinding" "coils" "I") (by decide +kernel)
  have hf_40 := hts (.fieldLink RX0 40 "ArmatureWinding" "chording" "I") (by decide +kernel)
  have hf_46 := hts (.fieldLink RX0 46 "ArmatureWinding" "poles" "I") (by decide +kernel)
  have hf_49 := hts (.fieldLink RX0 49 "ArmatureWinding" "slots" "I") (by decide +kernel)
  have hf_52 := hts (.fieldLink RX0 52 "ArmatureWinding" "coilsPerSlot" "I") (by decide +kernel)
  have hl := lv_entry ([.ref o, .int (zI a), .int (zI b), .int (zI k)]) (n := 5) (Nat.le_of_ble_eq_true rfl)
  rw [lg_entry_eq]
  generalize (lg_sl ([.ref o, .int (zI a), .int (zI b), .int (zI k)]) ++ List.replicate (5 - (lg_sl ([.ref o, .int (zI a), .int (zI b), .int (zI k)])).length) Slot.unset).toArray = ls at hl ⊢
  have hl : lv_has ls 5 [(0, .ref o), (1, .int (zI a)), (2, .int (zI b)), (3, .int (zI k))] := hl
  refine lv_aload_n hx hb dX0_layArmature_0 rfl (lv_at hl 0 rfl) ?_
  refine lv_iload_n hx hb dX0_layArmature_1 rfl (lv_at hl 1 rfl) ?_
  refine va_put (D := D) (ci := 0) (v := .int (zI a)) (ty := .int) (C := RX0) (T := TX0) (N := 11) hx hb hts hin tyX0 tyX0_ok nmX0 hown hK hP hD hS 0 rfl rfl 0 (by decide) hf_46 (fun _ h9 => h9) rfl (by decide +kernel) rfl rfl (Nat.le_of_ble_eq_true rfl) dX0_layArmature_2 (fun H locs hP hD hS => ?_)
  have hP : va_P D vwCl [(o, .inr (0, [.int (zI a), .int (zI S), .int (zI K), .int (zI N), .int ty, .int px, .int pr, .int (zI w), .int (zI ch), .ref oa, .ref ba])), (oa, .inl (yZ, 72, .inl (aw_f ob))), (ba, .inl (yI, 72, .inl g))] H := hP
  have hD : va_D _ [(o, .inr (0, [.int (zI a), .int (zI S), .int (zI K), .int (zI N), .int ty, .int px, .int pr, .int (zI w), .int (zI ch), .ref oa, .ref ba])), (oa, .inl (yZ, 72, .inl (aw_f ob))), (ba, .inl (yI, 72, .inl g))] := hD
  refine lv_aload_n hx hb dX0_layArmature_5 rfl (lv_at hl 0 rfl) ?_
  refine lv_iload_n hx hb dX0_layArmature_6 rfl (lv_at hl 2 rfl) ?_
  refine va_put (D := D) (ci := 0) (v := .int (zI b)) (ty := .int) (C := RX0) (T := TX0) (N := 11) hx hb hts hin tyX0 tyX0_ok nmX0 hown hK hP hD hS 0 rfl rfl 1 (by decide) hf_49 (fun _ h9 => h9) rfl (by decide +kernel) rfl rfl (Nat.le_of_ble_eq_true rfl) dX0_layArmature_7 (fun H locs hP hD hS => ?_)
  have hP : va_P D vwCl [(o, .inr (0, [.int (zI a), .int (zI b), .int (zI K), .int (zI N), .int ty, .int px, .int pr, .int (zI w), .int (zI ch), .ref oa, .ref ba])), (oa, .inl (yZ, 72, .inl (aw_f ob))), (ba, .inl (yI, 72, .inl g))] H := hP
  have hD : va_D _ [(o, .inr (0, [.int (zI a), .int (zI b), .int (zI K), .int (zI N), .int ty, .int px, .int pr, .int (zI w), .int (zI ch), .ref oa, .ref ba])), (oa, .inl (yZ, 72, .inl (aw_f ob))), (ba, .inl (yI, 72, .inl g))] := hD
  refine lv_aload_n hx hb dX0_layArmature_10 rfl (lv_at hl 0 rfl) ?_
  refine lv_iload_n hx hb dX0_layArmature_11 rfl (lv_at hl 3 rfl) ?_
  refine va_put (D := D) (ci := 0) (v := .int (zI k)) (ty := .int) (C := RX0) (T := TX0) (N := 11) hx hb hts hin tyX0 tyX0_ok nmX0 hown hK hP hD hS 0 rfl rfl 2 (by decide) hf_52 (fun _ h9 => h9) rfl (by decide +kernel) rfl rfl (Nat.le_of_ble_eq_true rfl) dX0_layArmature_12 (fun H locs hP hD hS => ?_)
  have hP : va_P D vwCl [(o, .inr (0, [.int (zI a), .int (zI b), .int (zI k), .int (zI N), .int ty, .int px, .int pr, .int (zI w), .int (zI ch), .ref oa, .ref ba])), (oa, .inl (yZ, 72, .inl (aw_f ob))), (ba, .inl (yI, 72, .inl g))] H := hP
  have hD : va_D _ [(o, .inr (0, [.int (zI a), .int (zI b), .int (zI k), .int (zI N), .int ty, .int px, .int pr, .int (zI w), .int (zI ch), .ref oa, .ref ba])), (oa, .inl (yZ, 72, .inl (aw_f ob))), (ba, .inl (yI, 72, .inl g))] := hD
  refine lv_aload_n hx hb dX0_layArmature_15 rfl (lv_at hl 0 rfl) ?_
  refine lv_iload_n hx hb dX0_layArmature_16 rfl (lv_at hl 2 rfl) ?_
  refine lv_iload_n hx hb dX0_layArmature_17 rfl (lv_at hl 3 rfl) ?_
  refine zb_mul hx hb dX0_layArmature_18 ?_
  refine va_put (D := D) (ci := 0) (v := .int (zI (b * k))) (ty := .int) (C := RX0) (T := TX0) (N := 11) hx hb hts hin tyX0 tyX0_ok nmX0 hown hK hP hD hS 0 rfl rfl 3 (by decide) hf_21 (fun _ h9 => h9) rfl (by decide +kernel) rfl rfl (Nat.le_of_ble_eq_true rfl) dX0_layArmature_19 (fun H locs hP hD hS => ?_)
  have hP : va_P D vwCl [(o, .inr (0, [.int (zI a), .int (zI b), .int (zI k), .int (zI (b * k)), .int ty, .int px, .int pr, .int (zI w), .int (zI ch), .ref oa, .ref ba])), (oa, .inl (yZ, 72, .inl (aw_f ob))), (ba, .inl (yI, 72, .inl g))] H := hP
  have hD : va_D _ [(o, .inr (0, [.int (zI a), .int (zI b), .int (zI k), .int (zI (b * k)), .int ty, .int px, .int pr, .int (zI w), .int (zI ch), .ref oa, .ref ba])), (oa, .inl (yZ, 72, .inl (aw_f ob))), (ba, .inl (yI, 72, .inl g))] := hD
  refine lv_aload_n hx hb dX0_layArmature_22 rfl (lv_at hl 0 rfl) ?_
  refine zb_iconst hx hb dX0_layArmature_23 ?_
  refine va_put (D := D) (ci := 0) (v := .int (zI 0)) (ty := .int) (C := RX0) (T := TX0) (N := 11) hx hb hts hin tyX0 tyX0_ok nmX0 hown hK hP hD hS 0 rfl rfl 8 (by decide) hf_40 (fun _ h9 => h9) rfl (by decide +kernel) rfl rfl (Nat.le_of_ble_eq_true rfl) dX0_layArmature_24 (fun H locs hP hD hS => ?_)
  have hP : va_P D vwCl [(o, .inr (0, [.int (zI a), .int (zI b), .int (zI k), .int (zI (b * k)), .int ty, .int px, .int pr, .int (zI w), .int (zI 0), .ref oa, .ref ba])), (oa, .inl (yZ, 72, .inl (aw_f ob))), (ba, .inl (yI, 72, .inl g))] H := hP
  have hD : va_D _ [(o, .inr (0, [.int (zI a), .int (zI b), .int (zI k), .int (zI (b * k)), .int ty, .int px, .int pr, .int (zI w), .int (zI 0), .ref oa, .ref ba])), (oa, .inl (yZ, 72, .inl (aw_f ob))), (ba, .inl (yI, 72, .inl g))] := hD
  refine zb_iconst hx hb dX0_layArmature_27 ?_
  refine lv_istore (lv' := [(4, .int (zI 0)), (0, .ref o), (1, .int (zI a)), (2, .int (zI b)), (3, .int (zI k))]) hx hb dX0_layArmature_28 hl (by decide) rfl (fun ls hl => ?_)
  refine zb_lpm (nL := 5) (τ := Int → Bool) (fun z ob2 => 0 ≤ z ∧ z ≤ 72 ∧ ∀ j : Int, 0 ≤ j → j < z → ob2 j = false) (fun z => [(4, .int (zI z)), (3, .int (zI k)), (2, .int (zI b)), (1, .int (zI a)), (0, .ref o)]) (fun ob2 => [(o, .inr (0, [.int (zI a), .int (zI b), .int (zI k), .int (zI (b * k)), .int ty, .int px, .int pr, .int (zI w), .int (zI 0), .ref oa, .ref ba])), (oa, .inl (yZ, 72, .inl (aw_f ob2))), (ba, .inl (yI, 72, .inl g))]) (fun z => 72 - z) 0 ob ⟨by omega, by omega, fun j _ _ => by omega⟩ (lv_sub hl [0, 4, 3, 2, 1] rfl) hP hD hS ?_
  intro z ob2 H locs ls hJ30 hl hP hD hS ih30
  have hJ30 : 0 ≤ z ∧ z ≤ 72 ∧ ∀ j : Int, 0 ≤ j → j < z → ob2 j = false := hJ30
  have hl : lv_has ls 5 [(4, .int (zI z)), (3, .int (zI k)), (2, .int (zI b)), (1, .int (zI a)), (0, .ref o)] := hl
  have hP : va_P D vwCl [(o, .inr (0, [.int (zI a), .int (zI b), .int (zI k), .int (zI (b * k)), .int ty, .int px, .int pr, .int (zI w), .int (zI 0), .ref oa, .ref ba])), (oa, .inl (yZ, 72, .inl (aw_f ob2))), (ba, .inl (yI, 72, .inl g))] H := hP
  have hD : va_D _ [(o, .inr (0, [.int (zI a), .int (zI b), .int (zI k), .int (zI (b * k)), .int ty, .int px, .int pr, .int (zI w), .int (zI 0), .ref oa, .ref ba])), (oa, .inl (yZ, 72, .inl (aw_f ob2))), (ba, .inl (yI, 72, .inl g))] := hD
  refine lv_iload hx hb dX0_layArmature_30 (lv_at hl 0 rfl) ?_
  refine lv_aload_n hx hb dX0_layArmature_32 rfl (lv_at hl 4 rfl) ?_
  refine va_get (D := D) (ci := 0) (v := .ref oa) (C := RX0) (T := TX0) (N := 11) hx hb hts hin hown hK hP 0 rfl rfl 9 (by decide) hf_9 (fun _ h9 => h9) rfl dX0_layArmature_33 ?_
  refine va_alen hx hb hK hP 1 0 rfl rfl (v := zI 72) (show Int32.ofNat 72 = zI 72 from by decide) dX0_layArmature_36 ?_
  refine zb_cge (tgt := 54) hx hb dX0_layArmature_37 (by decide) (by omega) (by omega) (fun c37 => ?_) (fun c37 => ?_)
  · skip
    have hob : ∀ z : Int, 0 ≤ z → z < 72 → ob2 z = false := fun j j0 j1 => hJ30.2.2 j j0 (by omega)
    refine lv_aload_n hx hb dX0_layArmature_54 rfl (lv_at hl 4 rfl) ?_
    refine aw_callMV (As := []) (rest := []) (wc := [(o, .inr (0, [.int (zI a), .int (zI b), .int (zI k), .int (zI (b * k)), .int ty, .int px, .int pr, .int (zI w), .int (zI 0), .ref oa, .ref ba])), (oa, .inl (yZ, 72, .inl (aw_f ob2))), (ba, .inl (yI, 72, .inl g))]) (wr := []) (ws2 := fun u => [(o, .inr (0, [.int (zI a), .int (zI b), .int (zI k), .int (zI (b * k)), .int ty, .int px, .int pr, .int (zI w), .int (zI 0), .ref oa, .ref ba])), (oa, .inl (yZ, 72, .inl (aw_f ob2))), (ba, .inl (yI, 72, .inl u))]) ⟨hx, hb, hml, hown, hts⟩ (k_placeBrushes ha hbk) (cwV 0 hts gX0_layArmature_X0_placeBrushes rfl rfl rfl (by decide +kernel) ⟨Nat.le_of_ble_eq_true rfl, Nat.le_of_ble_eq_true rfl⟩) hP hD hK hS hA rfl rfl [0, 1, 2] [] rfl rfl (by decide) (by decide) (by decide) [0, 1, 2] (by decide) (fun _ => rfl) rfl hl.1 rfl (Nat.le_of_ble_eq_true rfl) dX0_layArmature_55 ⟨Nat.zero_le _, Nat.zero_le _⟩ (fun u H locs hu hP hD hS => ?_)
    obtain ⟨g2, hg2⟩ : ∃ x, x = u := ⟨_, rfl⟩
    rw [← hg2] at hP hD
    have hP : va_P D vwCl [(o, .inr (0, [.int (zI a), .int (zI b), .int (zI k), .int (zI (b * k)), .int ty, .int px, .int pr, .int (zI w), .int (zI 0), .ref oa, .ref ba])), (oa, .inl (yZ, 72, .inl (aw_f ob2))), (ba, .inl (yI, 72, .inl g2))] H := hP
    have hD : va_D _ [(o, .inr (0, [.int (zI a), .int (zI b), .int (zI k), .int (zI (b * k)), .int ty, .int px, .int pr, .int (zI w), .int (zI 0), .ref oa, .ref ba])), (oa, .inl (yZ, 72, .inl (aw_f ob2))), (ba, .inl (yI, 72, .inl g2))] := hD
    refine W.eq (g2 := F0 m 58 ls []) rfl ?_
    refine lv_aload_n hx hb dX0_layArmature_58 rfl (lv_at hl 4 rfl) ?_
    refine zb_iconst hx hb dX0_layArmature_59 ?_
    refine zb_iconst hx hb dX0_layArmature_60 ?_
    refine zb_iconst hx hb dX0_layArmature_61 ?_
    refine zb_iconst hx hb dX0_layArmature_62 ?_
    refine aw_callMV (As := [.int (zI 0), .int (zI 1), .int (zI 1), .int (zI 1)]) (rest := []) (wc := [(o, .inr (0, [.int (zI a), .int (zI b), .int (zI k), .int (zI (b * k)), .int ty, .int px, .int pr, .int (zI w), .int (zI 0), .ref oa, .ref ba])), (oa, .inl (yZ, 72, .inl (aw_f ob2))), (ba, .inl (yI, 72, .inl g2))]) (wr := []) (ws2 := fun u => [(o, .inr (0, [.int (zI a), .int (zI b), .int (zI k), .int (zI (b * k)), .int (zI 0), .int (zI 1), .int (zI 1), .int (zI 1), .int (zI 0), .ref oa, .ref ba])), (oa, .inl (yZ, 72, .inl (aw_f ob2))), (ba, .inl (yI, 72, .inl g2))]) ⟨hx, hb, hml, hown, hts⟩ (k_layWinding (t := 0) (x := 1) (b := 1) (y := 1) (Or.inr rfl)) (cwV 4 hts gX0_layArmature_X0_layWinding rfl rfl rfl (by decide +kernel) ⟨Nat.le_of_ble_eq_true rfl, Nat.le_of_ble_eq_true rfl⟩) hP hD hK hS hA rfl rfl [0, 1, 2] [] rfl rfl (by decide) (by decide) (by decide) [0, 1, 2] (by decide) (fun _ => rfl) rfl hl.1 rfl (Nat.le_of_ble_eq_true rfl) dX0_layArmature_63 ⟨Nat.zero_le _, Nat.zero_le _⟩ (fun u H locs hu hP hD hS => ?_)
    have hP : va_P D vwCl [(o, .inr (0, [.int (zI a), .int (zI b), .int (zI k), .int (zI (b * k)), .int (zI 0), .int (zI 1), .int (zI 1), .int (zI 1), .int (zI 0), .ref oa, .ref ba])), (oa, .inl (yZ, 72, .inl (aw_f ob2))), (ba, .inl (yI, 72, .inl g2))] H := hP
    have hD : va_D _ [(o, .inr (0, [.int (zI a), .int (zI b), .int (zI k), .int (zI (b * k)), .int (zI 0), .int (zI 1), .int (zI 1), .int (zI 1), .int (zI 0), .ref oa, .ref ba])), (oa, .inl (yZ, 72, .inl (aw_f ob2))), (ba, .inl (yI, 72, .inl g2))] := hD
    refine W.eq (g2 := F0 m 66 ls []) rfl ?_
    exact aw_vretM (ob2, g2) hx hb hr hlocks dX0_layArmature_66 hob hP hK hD hS
  · skip
    refine lv_aload_n hx hb dX0_layArmature_40 rfl (lv_at hl 4 rfl) ?_
    refine va_get (D := D) (ci := 0) (v := .ref oa) (C := RX0) (T := TX0) (N := 11) hx hb hts hin hown hK hP 0 rfl rfl 9 (by decide) hf_9 (fun _ h9 => h9) rfl dX0_layArmature_41 ?_
    refine lv_iload hx hb dX0_layArmature_44 (lv_at hl 0 rfl) ?_
    refine zb_iconst hx hb dX0_layArmature_46 ?_
    refine zb_as (aw_b false) rfl ?_
    refine aw_zst hx hb hK hP hD hS 1 0 rfl rfl false (by omega) (by omega) dX0_layArmature_47 (fun H locs hP hD hS => ?_)
    have hP : va_P D vwCl [(o, .inr (0, [.int (zI a), .int (zI b), .int (zI k), .int (zI (b * k)), .int ty, .int px, .int pr, .int (zI w), .int (zI 0), .ref oa, .ref ba])), (oa, .inl (yZ, 72, .inl (aw_f (aw_up ob2 z false)))), (ba, .inl (yI, 72, .inl g))] H := hP
    have hD : va_D _ [(o, .inr (0, [.int (zI a), .int (zI b), .int (zI k), .int (zI (b * k)), .int ty, .int px, .int pr, .int (zI w), .int (zI 0), .ref oa, .ref ba])), (oa, .inl (yZ, 72, .inl (aw_f (aw_up ob2 z false)))), (ba, .inl (yI, 72, .inl g))] := hD
    refine zb_iinc (lv' := [(4, .int (zI (z + 1))), (3, .int (zI k)), (2, .int (zI b)), (1, .int (zI a)), (0, .ref o)]) hx hb dX0_layArmature_48 hl (k := 0) rfl (by decide) rfl (fun ls hl => ?_)
    refine lv_goto (tgt := 30) hx hb dX0_layArmature_51 (by decide) ?_
    exact ih30 (z + 1) (aw_up ob2 z false) H locs ls ⟨by omega, by omega, fun j j0 j1 => by unfold aw_up; by_cases hj : j = z; rw [if_pos hj]; rw [if_neg hj]; exact hJ30.2.2 j j0 (by omega)⟩ (by omega) (lv_sub hl [0, 1, 2, 3, 4] rfl) hP hD hS
set_option maxHeartbeats 4000000 in
set_option maxRecDepth 100000 in
/-- setArmature(a, b, k), accepted -/
theorem k_setArmature {a b k : Int} (h1 : 2 ≤ a ∧ a ≤ 8) (h2 : a % 2 = 0) (h3 : a ≤ b ∧ b ≤ 24) (h4 : 1 ≤ k ∧ k ≤ 3) : aw_MU (S := (Int → Bool) × (Nat → Int32)) l yX0_setArmature wsX0_setArmature (aw_rm 3 67) D (aw_T yZ yI) [(o, .inr (0, [.int (zI P), .int (zI S), .int (zI K), .int (zI N), .int ty, .int px, .int pr, .int (zI w), .int (zI ch), .ref oa, .ref ba])), (oa, .inl (yZ, 72, .inl (aw_f ob))), (ba, .inl (yI, 72, .inl g))] [.ref o, .int (zI a), .int (zI b), .int (zI k)] (some (b * k)) (fun u => ∀ z : Int, 0 ≤ z → z < 72 → u.1 z = false) (fun u => aw_W3 yZ yI o oa ba a b k (b * k) (zI 0) (zI 1) (zI 1) 1 0 (u.1) (u.2)) := by
  intro sz
  refine Met.ofW (cc := cX0_setArmature) (maxL := 4) (ret := (some .int)) (by decide) rfl ?_
  intro p e s m args below meth c s₁ B hml hv
  obtain ⟨rfl, hsz, hP, hK, hD0⟩ := hv
  have hx := B.exec
  have hb := B.bytes
  have hr := B.returns
  have hts := atoms_spec (ws := wsX0_setArmature) B.pre
  have hown : s.vm.findClass RX0 = some m.cls := findClass_of_methodNamed B.named
  have hlocks := B.notSynchronized
  subst hsz
  have hD := hD0.self (sz := s.heap.size)
  have hA : ∀ q : Nat, s.heap.size ≤ q → va_A [(o, .inr (0, [.int (zI P), .int (zI S), .int (zI K), .int (zI N), .int ty, .int px, .int pr, .int (zI w), .int (zI ch), .ref oa, .ref ba])), (oa, .inl (yZ, 72, .inl (aw_f ob))), (ba, .inl (yI, 72, .inl g))] s.heap.size q := fun q h => Or.inr h
  have hS : va_S (va_A [(o, .inr (0, [.int (zI P), .int (zI S), .int (zI K), .int (zI N), .int ty, .int px, .int pr, .int (zI w), .int (zI ch), .ref oa, .ref ba])), (oa, .inl (yZ, 72, .inl (aw_f ob))), (ba, .inl (yI, 72, .inl g))] s.heap.size) s.heap s.heap [] := va_S.rf
  have hin : ∀ w ∈ wsX00, w ∈ wsX0_setArmature := fun w h => List.mem_cons_of_mem _ (List.mem_append_right _ h)
  have hf_21 := hts (.fieldLink RX0 21 "ArmatureWinding" "coils" "I") (by decide +kernel)
  have hl := lv_entry ([.ref o, .int (zI a), .int (zI b), .int (zI k)]) (n := 4) (Nat.le_of_ble_eq_true rfl)
  rw [lg_entry_eq]
  generalize (lg_sl ([.ref o, .int (zI a), .int (zI b), .int (zI k)]) ++ List.replicate (4 - (lg_sl ([.ref o, .int (zI a), .int (zI b), .int (zI k)])).length) Slot.unset).toArray = ls at hl ⊢
  have hl : lv_has ls 4 [(0, .ref o), (1, .int (zI a)), (2, .int (zI b)), (3, .int (zI k))] := hl
  have hbk1 := aw_mul (x := b) (y := k) (a := 24) (b := 3) (by omega) (by omega) (by omega) (by omega)
  have hbk0 : 0 ≤ b * k := Int.mul_nonneg (by omega) (by omega)
  refine lv_iload_n hx hb dX0_setArmature_0 rfl (lv_at hl 1 rfl) ?_
  refine zb_iconst hx hb dX0_setArmature_1 ?_
  refine zb_clt (tgt := 17) hx hb dX0_setArmature_2 (by decide) (by omega) (by omega) (fun c2 => absurd c2 (by omega)) (fun c2 => ?_)
  refine lv_iload_n hx hb dX0_setArmature_5 rfl (lv_at hl 1 rfl) ?_
  refine zb_bipush hx hb dX0_setArmature_6 (by decide) ?_
  refine zb_cgt (tgt := 17) hx hb dX0_setArmature_8 (by decide) (by omega) (by omega) (fun c8 => absurd c8 (by omega)) (fun c8 => ?_)
  refine lv_iload_n hx hb dX0_setArmature_11 rfl (lv_at hl 1 rfl) ?_
  refine zb_iconst hx hb dX0_setArmature_12 ?_
  refine zb_rem hx hb dX0_setArmature_13 (by omega) (by omega) ?_
  refine zb_ieq (tgt := 21) hx hb dX0_setArmature_14 (by decide) (by omega) (fun c14 => ?_) (fun c14 => absurd c14 (by omega))
  refine lv_iload_n hx hb dX0_setArmature_21 rfl (lv_at hl 2 rfl) ?_
  refine lv_iload_n hx hb dX0_setArmature_22 rfl (lv_at hl 1 rfl) ?_
  refine zb_clt (tgt := 32) hx hb dX0_setArmature_23 (by decide) (by omega) (by omega) (fun c23 => absurd c23 (by omega)) (fun c23 => ?_)
  refine lv_iload_n hx hb dX0_setArmature_26 rfl (lv_at hl 2 rfl) ?_
  refine zb_bipush hx hb dX0_setArmature_27 (by decide) ?_
  refine zb_cle (tgt := 36) hx hb dX0_setArmature_29 (by decide) (by omega) (by omega) (fun c29 => ?_) (fun c29 => absurd c29 (by omega))
  refine lv_iload_n hx hb dX0_setArmature_36 rfl (lv_at hl 3 rfl) ?_
  refine zb_iconst hx hb dX0_setArmature_37 ?_
  refine zb_clt (tgt := 46) hx hb dX0_setArmature_38 (by decide) (by omega) (by omega) (fun c38 => absurd c38 (by omega)) (fun c38 => ?_)
  refine lv_iload_n hx hb dX0_setArmature_41 rfl (lv_at hl 3 rfl) ?_
  refine zb_iconst hx hb dX0_setArmature_42 ?_
  refine zb_cle (tgt := 50) hx hb dX0_setArmature_43 (by decide) (by omega) (by omega) (fun c43 => ?_) (fun c43 => absurd c43 (by omega))
  refine lv_aload_n hx hb dX0_setArmature_50 rfl (lv_at hl 0 rfl) ?_
  refine lv_iload_n hx hb dX0_setArmature_51 rfl (lv_at hl 1 rfl) ?_
  refine lv_iload_n hx hb dX0_setArmature_52 rfl (lv_at hl 2 rfl) ?_
  refine lv_iload_n hx hb dX0_setArmature_53 rfl (lv_at hl 3 rfl) ?_
  refine aw_callMV (As := [.int (zI a), .int (zI b), .int (zI k)]) (rest := []) (wc := [(o, .inr (0, [.int (zI P), .int (zI S), .int (zI K), .int (zI N), .int ty, .int px, .int pr, .int (zI w), .int (zI ch), .ref oa, .ref ba])), (oa, .inl (yZ, 72, .inl (aw_f ob))), (ba, .inl (yI, 72, .inl g))]) (wr := []) (ws2 := fun u => [(o, .inr (0, [.int (zI a), .int (zI b), .int (zI k), .int (zI (b * k)), .int (zI 0), .int (zI 1), .int (zI 1), .int (zI 1), .int (zI 0), .ref oa, .ref ba])), (oa, .inl (yZ, 72, .inl (aw_f (u.1)))), (ba, .inl (yI, 72, .inl (u.2)))]) ⟨hx, hb, hml, hown, hts⟩ (k_layArmature ⟨by omega, by omega⟩ ⟨by omega, by omega⟩) (cwV 3 hts gX0_setArmature_X0_layArmature rfl rfl rfl (by decide +kernel) ⟨Nat.le_of_ble_eq_true rfl, Nat.le_of_ble_eq_true rfl⟩) hP hD hK hS hA rfl rfl [0, 1, 2] [] rfl rfl (by decide) (by decide) (by decide) [0, 1, 2] (by decide) (fun _ => rfl) rfl hl.1 rfl (Nat.le_of_ble_eq_true rfl) dX0_setArmature_54 ⟨Nat.zero_le _, Nat.zero_le _⟩ (fun u H locs hu hP hD hS => ?_)
  obtain ⟨ob2, g2⟩ := u
  have hP : va_P D vwCl [(o, .inr (0, [.int (zI a), .int (zI b), .int (zI k), .int (zI (b * k)), .int (zI 0), .int (zI 1), .int (zI 1), .int (zI 1), .int (zI 0), .ref oa, .ref ba])), (oa, .inl (yZ, 72, .inl (aw_f ob2))), (ba, .inl (yI, 72, .inl g2))] H := hP
  have hD : va_D _ [(o, .inr (0, [.int (zI a), .int (zI b), .int (zI k), .int (zI (b * k)), .int (zI 0), .int (zI 1), .int (zI 1), .int (zI 1), .int (zI 0), .ref oa, .ref ba])), (oa, .inl (yZ, 72, .inl (aw_f ob2))), (ba, .inl (yI, 72, .inl g2))] := hD
  refine W.eq (g2 := F0 m 57 ls []) rfl ?_
  refine lv_aload_n hx hb dX0_setArmature_57 rfl (lv_at hl 0 rfl) ?_
  refine va_get (D := D) (ci := 0) (v := .int (zI (b * k))) (C := RX0) (T := TX0) (N := 11) hx hb hts hin hown hK hP 0 rfl rfl 3 (by decide) hf_21 (fun _ h9 => h9) rfl dX0_setArmature_58 ?_
  exact aw_iretM (ob2, g2) hx hb hr hlocks dX0_setArmature_61 rfl hu hP hK hD hS
set_option maxHeartbeats 4000000 in
set_option maxRecDepth 100000 in
/-- setWinding(t, x, b), lap -/
theorem k_setWinding_lap (hP1 : 2 ≤ P ∧ P ≤ 8) (hN1 : 0 ≤ N ∧ N ≤ 72) {t x b h : Int} (hx3 : 1 ≤ x ∧ x ≤ 3) (hb3 : b = 1 ∧ h = x ∨ b = 0 ∧ h = -x) (ht : t = 0) : aw_MU (S := Unit) l yX0_setWinding wsX0_setWinding (aw_rm 2 43) D (aw_T yZ yI) [(o, .inr (0, [.int (zI P), .int (zI S), .int (zI K), .int (zI N), .int ty, .int px, .int pr, .int (zI w), .int (zI ch), .ref oa, .ref ba])), (oa, .inl (yZ, 72, .inl (aw_f ob))), (ba, .inl (yI, 72, .inl g))] [.ref o, .int (zI t), .int (zI x), .int (zI b)] (some (h)) (fun _ => True) (fun _ => aw_W3 yZ yI o oa ba P S K N (zI t) (zI x) (zI b) h ch ob g) := by
  intro sz
  refine Met.ofW (cc := cX0_setWinding) (maxL := 5) (ret := (some .int)) (by decide) rfl ?_
  intro p e s m args below meth c s₁ B hml hv
  obtain ⟨rfl, hsz, hP, hK, hD0⟩ := hv
  have hx := B.exec
  have hb := B.bytes
  have hr := B.returns
  have hts := atoms_spec (ws := wsX0_setWinding) B.pre
  have hown : s.vm.findClass RX0 = some m.cls := findClass_of_methodNamed B.named
  have hlocks := B.notSynchronized
  subst hsz
  have hD := hD0.self (sz := s.heap.size)
  have hA : ∀ q : Nat, s.heap.size ≤ q → va_A [(o, .inr (0, [.int (zI P), .int (zI S), .int (zI K), .int (zI N), .int ty, .int px, .int pr, .int (zI w), .int (zI ch), .ref oa, .ref ba])), (oa, .inl (yZ, 72, .inl (aw_f ob))), (ba, .inl (yI, 72, .inl g))] s.heap.size q := fun q h => Or.inr h
  have hS : va_S (va_A [(o, .inr (0, [.int (zI P), .int (zI S), .int (zI K), .int (zI N), .int ty, .int px, .int pr, .int (zI w), .int (zI ch), .ref oa, .ref ba])), (oa, .inl (yZ, 72, .inl (aw_f ob))), (ba, .inl (yI, 72, .inl g))] s.heap.size) s.heap s.heap [] := va_S.rf
  have hin : ∀ w ∈ wsX00, w ∈ wsX0_setWinding := fun w h => List.mem_cons_of_mem _ (List.mem_append_right _ h)
  have hf_37 := hts (.fieldLink RX0 37 "ArmatureWinding" "pitch" "I") (by decide +kernel)
  have hl := lv_entry ([.ref o, .int (zI t), .int (zI x), .int (zI b)]) (n := 5) (Nat.le_of_ble_eq_true rfl)
  rw [lg_entry_eq]
  generalize (lg_sl ([.ref o, .int (zI t), .int (zI x), .int (zI b)]) ++ List.replicate (5 - (lg_sl ([.ref o, .int (zI t), .int (zI x), .int (zI b)])).length) Slot.unset).toArray = ls at hl ⊢
  have hl : lv_has ls 5 [(0, .ref o), (1, .int (zI t)), (2, .int (zI x)), (3, .int (zI b))] := hl
  refine lv_iload_n hx hb dX0_setWinding_0 rfl (lv_at hl 1 rfl) ?_
  refine zb_ieq (tgt := 13) hx hb dX0_setWinding_1 (by decide) (by omega) (fun c1 => ?_) (fun c1 => absurd c1 (by omega))
  refine lv_iload_n hx hb dX0_setWinding_13 rfl (lv_at hl 2 rfl) ?_
  refine zb_iconst hx hb dX0_setWinding_14 ?_
  refine zb_clt (tgt := 23) hx hb dX0_setWinding_15 (by decide) (by omega) (by omega) (fun c15 => absurd c15 (by omega)) (fun c15 => ?_)
  refine lv_iload_n hx hb dX0_setWinding_18 rfl (lv_at hl 2 rfl) ?_
  refine zb_iconst hx hb dX0_setWinding_19 ?_
  refine zb_cle (tgt := 27) hx hb dX0_setWinding_20 (by decide) (by omega) (by omega) (fun c20 => ?_) (fun c20 => absurd c20 (by omega))
  refine lv_iload_n hx hb dX0_setWinding_27 rfl (lv_at hl 3 rfl) ?_
  refine zb_join (fun j => h = j) (pcj := 37) (lj := ls) (rj := []) (fun j hj => ?_) (fun hj37 => ?_)
  rotate_left
  · skip
    refine zb_ieq (tgt := 35) hx hb dX0_setWinding_28 (by decide) (by omega) (fun c28 => ?_) (fun c28 => ?_)
    · skip
      refine lv_iload_n hx hb dX0_setWinding_35 rfl (lv_at hl 2 rfl) ?_
      refine zb_neg hx hb dX0_setWinding_36 ?_
      exact hj37 (-x) (by omega)
    · skip
      refine lv_iload_n hx hb dX0_setWinding_31 rfl (lv_at hl 2 rfl) ?_
      refine lv_goto (tgt := 37) hx hb dX0_setWinding_32 (by decide) ?_
      exact hj37 x (by omega)
  · skip
    subst hj
    refine lv_istore (lv' := [(4, .int (zI h)), (0, .ref o), (1, .int (zI t)), (2, .int (zI x)), (3, .int (zI b))]) hx hb dX0_setWinding_37 hl (by decide) rfl (fun ls hl => ?_)
    refine lv_iload_n hx hb dX0_setWinding_39 rfl (lv_at hl 2 rfl) ?_
    refine zb_iconst hx hb dX0_setWinding_40 ?_
    refine zb_cne (tgt := 57) hx hb dX0_setWinding_41 (by decide) (by omega) (by omega) (fun c41 => ?_) (fun c41 => absurd c41 (by omega))
    refine lv_aload_n hx hb dX0_setWinding_57 rfl (lv_at hl 1 rfl) ?_
    refine lv_iload_n hx hb dX0_setWinding_58 rfl (lv_at hl 2 rfl) ?_
    refine lv_iload_n hx hb dX0_setWinding_59 rfl (lv_at hl 3 rfl) ?_
    refine lv_iload_n hx hb dX0_setWinding_60 rfl (lv_at hl 4 rfl) ?_
    refine lv_iload_n hx hb dX0_setWinding_61 rfl (lv_at hl 2 rfl) ?_
    refine zb_iconst hx hb dX0_setWinding_62 ?_
    refine zb_cne (tgt := 75) hx hb dX0_setWinding_63 (by decide) (by omega) (by omega) (fun c63 => ?_) (fun c63 => absurd c63 (by omega))
    refine lv_iload hx hb dX0_setWinding_75 (lv_at hl 0 rfl) ?_
    refine aw_callMV (As := [.int (zI t), .int (zI x), .int (zI b), .int (zI h)]) (rest := []) (wc := [(o, .inr (0, [.int (zI P), .int (zI S), .int (zI K), .int (zI N), .int ty, .int px, .int pr, .int (zI w), .int (zI ch), .ref oa, .ref ba])), (oa, .inl (yZ, 72, .inl (aw_f ob))), (ba, .inl (yI, 72, .inl g))]) (wr := []) (ws2 := fun u => [(o, .inr (0, [.int (zI P), .int (zI S), .int (zI K), .int (zI N), .int (zI t), .int (zI x), .int (zI b), .int (zI h), .int (zI ch), .ref oa, .ref ba])), (oa, .inl (yZ, 72, .inl (aw_f ob))), (ba, .inl (yI, 72, .inl g))]) ⟨hx, hb, hml, hown, hts⟩ (k_layWinding (t := t) (x := x) (b := b) (y := h) (by omega)) (cwV 4 hts gX0_setWinding_X0_layWinding rfl rfl rfl (by decide +kernel) ⟨Nat.le_of_ble_eq_true rfl, Nat.le_of_ble_eq_true rfl⟩) hP hD hK hS hA rfl rfl [0, 1, 2] [] rfl rfl (by decide) (by decide) (by decide) [0, 1, 2] (by decide) (fun _ => rfl) rfl hl.1 rfl (Nat.le_of_ble_eq_true rfl) dX0_setWinding_77 ⟨Nat.zero_le _, Nat.zero_le _⟩ (fun u H locs hu hP hD hS => ?_)
    have hP : va_P D vwCl [(o, .inr (0, [.int (zI P), .int (zI S), .int (zI K), .int (zI N), .int (zI t), .int (zI x), .int (zI b), .int (zI h), .int (zI ch), .ref oa, .ref ba])), (oa, .inl (yZ, 72, .inl (aw_f ob))), (ba, .inl (yI, 72, .inl g))] H := hP
    have hD : va_D _ [(o, .inr (0, [.int (zI P), .int (zI S), .int (zI K), .int (zI N), .int (zI t), .int (zI x), .int (zI b), .int (zI h), .int (zI ch), .ref oa, .ref ba])), (oa, .inl (yZ, 72, .inl (aw_f ob))), (ba, .inl (yI, 72, .inl g))] := hD
    refine W.eq (g2 := F0 m 80 ls []) rfl ?_
    refine lv_aload_n hx hb dX0_setWinding_80 rfl (lv_at hl 1 rfl) ?_
    refine va_get (D := D) (ci := 0) (v := .int (zI h)) (C := RX0) (T := TX0) (N := 11) hx hb hts hin hown hK hP 0 rfl rfl 7 (by decide) hf_37 (fun _ h9 => h9) rfl dX0_setWinding_81 ?_
    exact aw_iretM () hx hb hr hlocks dX0_setWinding_84 rfl trivial hP hK hD hS
set_option maxHeartbeats 4000000 in
set_option maxRecDepth 100000 in
/-- setWinding(t, x, b), wave, possible -/
theorem k_setWinding_wave (hP1 : 2 ≤ P ∧ P ≤ 8) (hN1 : 0 ≤ N ∧ N ≤ 72) {t x b h : Int} (hx3 : 1 ≤ x ∧ x ≤ 3) (hb3 : b = 1 ∧ h = x ∨ b = 0 ∧ h = -x) (ht : t = 1) (hyes : (N + h).tdiv (P / 2) * (P / 2) = N + h) : aw_MU (S := Unit) l yX0_setWinding wsX0_setWinding (aw_rm 2 43) D (aw_T yZ yI) [(o, .inr (0, [.int (zI P), .int (zI S), .int (zI K), .int (zI N), .int ty, .int px, .int pr, .int (zI w), .int (zI ch), .ref oa, .ref ba])), (oa, .inl (yZ, 72, .inl (aw_f ob))), (ba, .inl (yI, 72, .inl g))] [.ref o, .int (zI t), .int (zI x), .int (zI b)] (some ((N + h).tdiv (P / 2))) (fun _ => True) (fun _ => aw_W3 yZ yI o oa ba P S K N (zI t) (zI x) (zI b) ((N + h).tdiv (P / 2)) ch ob g) := by
  intro sz
  refine Met.ofW (cc := cX0_setWinding) (maxL := 5) (ret := (some .int)) (by decide) rfl ?_
  intro p e s m args below meth c s₁ B hml hv
  obtain ⟨rfl, hsz, hP, hK, hD0⟩ := hv
  have hx := B.exec
  have hb := B.bytes
  have hr := B.returns
  have hts := atoms_spec (ws := wsX0_setWinding) B.pre
  have hown : s.vm.findClass RX0 = some m.cls := findClass_of_methodNamed B.named
  have hlocks := B.notSynchronized
  subst hsz
  have hD := hD0.self (sz := s.heap.size)
  have hA : ∀ q : Nat, s.heap.size ≤ q → va_A [(o, .inr (0, [.int (zI P), .int (zI S), .int (zI K), .int (zI N), .int ty, .int px, .int pr, .int (zI w), .int (zI ch), .ref oa, .ref ba])), (oa, .inl (yZ, 72, .inl (aw_f ob))), (ba, .inl (yI, 72, .inl g))] s.heap.size q := fun q h => Or.inr h
  have hS : va_S (va_A [(o, .inr (0, [.int (zI P), .int (zI S), .int (zI K), .int (zI N), .int ty, .int px, .int pr, .int (zI w), .int (zI ch), .ref oa, .ref ba])), (oa, .inl (yZ, 72, .inl (aw_f ob))), (ba, .inl (yI, 72, .inl g))] s.heap.size) s.heap s.heap [] := va_S.rf
  have hin : ∀ w ∈ wsX00, w ∈ wsX0_setWinding := fun w h => List.mem_cons_of_mem _ (List.mem_append_right _ h)
  have hf_37 := hts (.fieldLink RX0 37 "ArmatureWinding" "pitch" "I") (by decide +kernel)
  have hl := lv_entry ([.ref o, .int (zI t), .int (zI x), .int (zI b)]) (n := 5) (Nat.le_of_ble_eq_true rfl)
  rw [lg_entry_eq]
  generalize (lg_sl ([.ref o, .int (zI t), .int (zI x), .int (zI b)]) ++ List.replicate (5 - (lg_sl ([.ref o, .int (zI t), .int (zI x), .int (zI b)])).length) Slot.unset).toArray = ls at hl ⊢
  have hl : lv_has ls 5 [(0, .ref o), (1, .int (zI t)), (2, .int (zI x)), (3, .int (zI b))] := hl
  have hw := aw_b_t (decide_eq_true hyes)
  refine lv_iload_n hx hb dX0_setWinding_0 rfl (lv_at hl 1 rfl) ?_
  refine zb_ieq (tgt := 13) hx hb dX0_setWinding_1 (by decide) (by omega) (fun c1 => absurd c1 (by omega)) (fun c1 => ?_)
  refine lv_iload_n hx hb dX0_setWinding_4 rfl (lv_at hl 1 rfl) ?_
  refine zb_iconst hx hb dX0_setWinding_5 ?_
  refine zb_ceq (tgt := 13) hx hb dX0_setWinding_6 (by decide) (by omega) (by omega) (fun c6 => ?_) (fun c6 => absurd c6 (by omega))
  refine lv_iload_n hx hb dX0_setWinding_13 rfl (lv_at hl 2 rfl) ?_
  refine zb_iconst hx hb dX0_setWinding_14 ?_
  refine zb_clt (tgt := 23) hx hb dX0_setWinding_15 (by decide) (by omega) (by omega) (fun c15 => absurd c15 (by omega)) (fun c15 => ?_)
  refine lv_iload_n hx hb dX0_setWinding_18 rfl (lv_at hl 2 rfl) ?_
  refine zb_iconst hx hb dX0_setWinding_19 ?_
  refine zb_cle (tgt := 27) hx hb dX0_setWinding_20 (by decide) (by omega) (by omega) (fun c20 => ?_) (fun c20 => absurd c20 (by omega))
  refine lv_iload_n hx hb dX0_setWinding_27 rfl (lv_at hl 3 rfl) ?_
  refine zb_join (fun j => h = j) (pcj := 37) (lj := ls) (rj := []) (fun j hj => ?_) (fun hj37 => ?_)
  rotate_left
  · skip
    refine zb_ieq (tgt := 35) hx hb dX0_setWinding_28 (by decide) (by omega) (fun c28 => ?_) (fun c28 => ?_)
    · skip
      refine lv_iload_n hx hb dX0_setWinding_35 rfl (lv_at hl 2 rfl) ?_
      refine zb_neg hx hb dX0_setWinding_36 ?_
      exact hj37 (-x) (by omega)
    · skip
      refine lv_iload_n hx hb dX0_setWinding_31 rfl (lv_at hl 2 rfl) ?_
      refine lv_goto (tgt := 37) hx hb dX0_setWinding_32 (by decide) ?_
      exact hj37 x (by omega)
  · skip
    subst hj
    refine lv_istore (lv' := [(4, .int (zI h)), (0, .ref o), (1, .int (zI t)), (2, .int (zI x)), (3, .int (zI b))]) hx hb dX0_setWinding_37 hl (by decide) rfl (fun ls hl => ?_)
    refine lv_iload_n hx hb dX0_setWinding_39 rfl (lv_at hl 2 rfl) ?_
    refine zb_iconst hx hb dX0_setWinding_40 ?_
    refine zb_cne (tgt := 57) hx hb dX0_setWinding_41 (by decide) (by omega) (by omega) (fun c41 => absurd c41 (by omega)) (fun c41 => ?_)
    refine lv_aload_n hx hb dX0_setWinding_44 rfl (lv_at hl 1 rfl) ?_
    refine lv_iload hx hb dX0_setWinding_45 (lv_at hl 0 rfl) ?_
    refine aw_callV (As := [.int (zI h)]) (rest := []) ⟨hx, hb, hml, hown, hts⟩ (k_isWavePossible (x := h) hP1 hN1 ⟨by omega, by omega⟩) (cwV 1 hts gX0_setWinding_X0_isWavePossible rfl rfl rfl (by decide +kernel) ⟨Nat.le_of_ble_eq_true rfl, Nat.le_of_ble_eq_true rfl⟩) hP hK rfl rfl rfl hl.1 rfl (Nat.le_of_ble_eq_true rfl) dX0_setWinding_47 ⟨Nat.zero_le _, Nat.zero_le _⟩ ?_
    refine zb_ine (tgt := 57) hx hb dX0_setWinding_50 (by decide) (by omega) (fun c50 => ?_) (fun c50 => absurd c50 (by omega))
    refine lv_aload_n hx hb dX0_setWinding_57 rfl (lv_at hl 1 rfl) ?_
    refine lv_iload_n hx hb dX0_setWinding_58 rfl (lv_at hl 2 rfl) ?_
    refine lv_iload_n hx hb dX0_setWinding_59 rfl (lv_at hl 3 rfl) ?_
    refine lv_iload_n hx hb dX0_setWinding_60 rfl (lv_at hl 4 rfl) ?_
    refine lv_iload_n hx hb dX0_setWinding_61 rfl (lv_at hl 2 rfl) ?_
    refine zb_iconst hx hb dX0_setWinding_62 ?_
    refine zb_cne (tgt := 75) hx hb dX0_setWinding_63 (by decide) (by omega) (by omega) (fun c63 => absurd c63 (by omega)) (fun c63 => ?_)
    refine lv_aload_n hx hb dX0_setWinding_66 rfl (lv_at hl 1 rfl) ?_
    refine lv_iload hx hb dX0_setWinding_67 (lv_at hl 0 rfl) ?_
    refine aw_callV (As := [.int (zI h)]) (rest := [.int (zI b), .int (zI x), .int (zI t), .ref o]) ⟨hx, hb, hml, hown, hts⟩ (k_wavePitch (x := h) hP1 hN1 ⟨by omega, by omega⟩) (cwV 1 hts gX0_setWinding_X0_wavePitch rfl rfl rfl (by decide +kernel) ⟨Nat.le_of_ble_eq_true rfl, Nat.le_of_ble_eq_true rfl⟩) hP hK rfl rfl rfl hl.1 rfl (Nat.le_of_ble_eq_true rfl) dX0_setWinding_69 ⟨Nat.zero_le _, Nat.zero_le _⟩ ?_
    refine lv_goto (tgt := 77) hx hb dX0_setWinding_72 (by decide) ?_
    refine aw_callMV (As := [.int (zI t), .int (zI x), .int (zI b), .int (zI ((N + h).tdiv (P / 2)))]) (rest := []) (wc := [(o, .inr (0, [.int (zI P), .int (zI S), .int (zI K), .int (zI N), .int ty, .int px, .int pr, .int (zI w), .int (zI ch), .ref oa, .ref ba])), (oa, .inl (yZ, 72, .inl (aw_f ob))), (ba, .inl (yI, 72, .inl g))]) (wr := []) (ws2 := fun u => [(o, .inr (0, [.int (zI P), .int (zI S), .int (zI K), .int (zI N), .int (zI t), .int (zI x), .int (zI b), .int (zI ((N + h).tdiv (P / 2))), .int (zI ch), .ref oa, .ref ba])), (oa, .inl (yZ, 72, .inl (aw_f ob))), (ba, .inl (yI, 72, .inl g))]) ⟨hx, hb, hml, hown, hts⟩ (k_layWinding (t := t) (x := x) (b := b) (y := (N + h).tdiv (P / 2)) (by omega)) (cwV 4 hts gX0_setWinding_X0_layWinding rfl rfl rfl (by decide +kernel) ⟨Nat.le_of_ble_eq_true rfl, Nat.le_of_ble_eq_true rfl⟩) hP hD hK hS hA rfl rfl [0, 1, 2] [] rfl rfl (by decide) (by decide) (by decide) [0, 1, 2] (by decide) (fun _ => rfl) rfl hl.1 rfl (Nat.le_of_ble_eq_true rfl) dX0_setWinding_77 ⟨Nat.zero_le _, Nat.zero_le _⟩ (fun u H locs hu hP hD hS => ?_)
    have hP : va_P D vwCl [(o, .inr (0, [.int (zI P), .int (zI S), .int (zI K), .int (zI N), .int (zI t), .int (zI x), .int (zI b), .int (zI ((N + h).tdiv (P / 2))), .int (zI ch), .ref oa, .ref ba])), (oa, .inl (yZ, 72, .inl (aw_f ob))), (ba, .inl (yI, 72, .inl g))] H := hP
    have hD : va_D _ [(o, .inr (0, [.int (zI P), .int (zI S), .int (zI K), .int (zI N), .int (zI t), .int (zI x), .int (zI b), .int (zI ((N + h).tdiv (P / 2))), .int (zI ch), .ref oa, .ref ba])), (oa, .inl (yZ, 72, .inl (aw_f ob))), (ba, .inl (yI, 72, .inl g))] := hD
    refine W.eq (g2 := F0 m 80 ls []) rfl ?_
    refine lv_aload_n hx hb dX0_setWinding_80 rfl (lv_at hl 1 rfl) ?_
    refine va_get (D := D) (ci := 0) (v := .int (zI ((N + h).tdiv (P / 2)))) (C := RX0) (T := TX0) (N := 11) hx hb hts hin hown hK hP 0 rfl rfl 7 (by decide) hf_37 (fun _ h9 => h9) rfl dX0_setWinding_81 ?_
    exact aw_iretM () hx hb hr hlocks dX0_setWinding_84 rfl trivial hP hK hD hS
set_option maxHeartbeats 4000000 in
set_option maxRecDepth 100000 in
/-- setChording(x), accepted -/
theorem k_setChording {x : Int} (hx3 : 0 ≤ x ∧ x ≤ 5) : aw_MU (S := Unit) l yX0_setChording wsX0_setChording (aw_rm 0 0) D (aw_T yZ yI) [(o, .inr (0, [.int (zI P), .int (zI S), .int (zI K), .int (zI N), .int ty, .int px, .int pr, .int (zI w), .int (zI ch), .ref oa, .ref ba])), (oa, .inl (yZ, 72, .inl (aw_f ob))), (ba, .inl (yI, 72, .inl g))] [.ref o, .int (zI x)] (some (ch)) (fun _ => True) (fun _ => aw_W3 yZ yI o oa ba P S K N ty px pr w x ob g) := by
  intro sz
  refine Met.ofW (cc := cX0_setChording) (maxL := 3) (ret := (some .int)) (by decide) rfl ?_
  intro p e s m args below meth c s₁ B hml hv
  obtain ⟨rfl, hsz, hP, hK, hD0⟩ := hv
  have hx := B.exec
  have hb := B.bytes
  have hr := B.returns
  have hts := atoms_spec (ws := wsX0_setChording) B.pre
  have hown : s.vm.findClass RX0 = some m.cls := findClass_of_methodNamed B.named
  have hlocks := B.notSynchronized
  subst hsz
  have hD := hD0.self (sz := s.heap.size)
  have hA : ∀ q : Nat, s.heap.size ≤ q → va_A [(o, .inr (0, [.int (zI P), .int (zI S), .int (zI K), .int (zI N), .int ty, .int px, .int pr, .int (zI w), .int (zI ch), .ref oa, .ref ba])), (oa, .inl (yZ, 72, .inl (aw_f ob))), (ba, .inl (yI, 72, .inl g))] s.heap.size q := fun q h => Or.inr h
  have hS : va_S (va_A [(o, .inr (0, [.int (zI P), .int (zI S), .int (zI K), .int (zI N), .int ty, .int px, .int pr, .int (zI w), .int (zI ch), .ref oa, .ref ba])), (oa, .inl (yZ, 72, .inl (aw_f ob))), (ba, .inl (yI, 72, .inl g))] s.heap.size) s.heap s.heap [] := va_S.rf
  have hin : ∀ w ∈ wsX00, w ∈ wsX0_setChording := fun w h => List.mem_cons_of_mem _ (List.mem_append_right _ h)
  have hf_40 := hts (.fieldLink RX0 40 "ArmatureWinding" "chording" "I") (by decide +kernel)
  have hl := lv_entry ([.ref o, .int (zI x)]) (n := 3) (Nat.le_of_ble_eq_true rfl)
  rw [lg_entry_eq]
  generalize (lg_sl ([.ref o, .int (zI x)]) ++ List.replicate (3 - (lg_sl ([.ref o, .int (zI x)])).length) Slot.unset).toArray = ls at hl ⊢
  have hl : lv_has ls 3 [(0, .ref o), (1, .int (zI x))] := hl
  refine lv_iload_n hx hb dX0_setChording_0 rfl (lv_at hl 1 rfl) ?_
  refine zb_ilt (tgt := 9) hx hb dX0_setChording_1 (by decide) (by omega) (fun c1 => absurd c1 (by omega)) (fun c1 => ?_)
  refine lv_iload_n hx hb dX0_setChording_4 rfl (lv_at hl 1 rfl) ?_
  refine zb_iconst hx hb dX0_setChording_5 ?_
  refine zb_cle (tgt := 13) hx hb dX0_setChording_6 (by decide) (by omega) (by omega) (fun c6 => ?_) (fun c6 => absurd c6 (by omega))
  refine lv_aload_n hx hb dX0_setChording_13 rfl (lv_at hl 0 rfl) ?_
  refine va_get (D := D) (ci := 0) (v := .int (zI ch)) (C := RX0) (T := TX0) (N := 11) hx hb hts hin hown hK hP 0 rfl rfl 8 (by decide) hf_40 (fun _ h9 => h9) rfl dX0_setChording_14 ?_
  refine lv_istore_n (lv' := [(2, .int (zI ch)), (0, .ref o), (1, .int (zI x))]) hx hb dX0_setChording_17 rfl hl (by decide) rfl (fun ls hl => ?_)
  refine lv_aload_n hx hb dX0_setChording_18 rfl (lv_at hl 1 rfl) ?_
  refine lv_iload_n hx hb dX0_setChording_19 rfl (lv_at hl 2 rfl) ?_
  refine va_put (D := D) (ci := 0) (v := .int (zI x)) (ty := .int) (C := RX0) (T := TX0) (N := 11) hx hb hts hin tyX0 tyX0_ok nmX0 hown hK hP hD hS 0 rfl rfl 8 (by decide) hf_40 (fun _ h9 => h9) rfl (by decide +kernel) rfl rfl (Nat.le_of_ble_eq_true rfl) dX0_setChording_20 (fun H locs hP hD hS => ?_)
  have hP : va_P D vwCl [(o, .inr (0, [.int (zI P), .int (zI S), .int (zI K), .int (zI N), .int ty, .int px, .int pr, .int (zI w), .int (zI x), .ref oa, .ref ba])), (oa, .inl (yZ, 72, .inl (aw_f ob))), (ba, .inl (yI, 72, .inl g))] H := hP
  have hD : va_D _ [(o, .inr (0, [.int (zI P), .int (zI S), .int (zI K), .int (zI N), .int ty, .int px, .int pr, .int (zI w), .int (zI x), .ref oa, .ref ba])), (oa, .inl (yZ, 72, .inl (aw_f ob))), (ba, .inl (yI, 72, .inl g))] := hD
  refine lv_iload_n hx hb dX0_setChording_23 rfl (lv_at hl 0 rfl) ?_
  exact aw_iretM () hx hb hr hlocks dX0_setChording_24 rfl trivial hP hK hD hS
set_option maxHeartbeats 4000000 in
set_option maxRecDepth 100000 in
/-- setOpen(q, b), accepted -/
theorem k_setOpen (hN1 : 0 ≤ N ∧ N ≤ 72) {q : Int} {bv : Bool} (hq : 0 ≤ q ∧ q < N) : aw_MU (S := Unit) l yX0_setOpen wsX0_setOpen (aw_rm 2 42) D (aw_T yZ yI) [(o, .inr (0, [.int (zI P), .int (zI S), .int (zI K), .int (zI N), .int ty, .int px, .int pr, .int (zI w), .int (zI ch), .ref oa, .ref ba])), (oa, .inl (yZ, 72, .inl (aw_f ob))), (ba, .inl (yI, 72, .inl g))] [.ref o, .int (zI q), .int (zI (aw_b bv))] (some (aw_b (ob q))) (fun _ => True) (fun _ => aw_W3 yZ yI o oa ba P S K N ty px pr w ch (aw_up ob q bv) g) := by
  intro sz
  refine Met.ofW (cc := cX0_setOpen) (maxL := 4) (ret := (some .int)) (by decide) rfl ?_
  intro p e s m args below meth c s₁ B hml hv
  obtain ⟨rfl, hsz, hP, hK, hD0⟩ := hv
  have hx := B.exec
  have hb := B.bytes
  have hr := B.returns
  have hts := atoms_spec (ws := wsX0_setOpen) B.pre
  have hown : s.vm.findClass RX0 = some m.cls := findClass_of_methodNamed B.named
  have hlocks := B.notSynchronized
  subst hsz
  have hD := hD0.self (sz := s.heap.size)
  have hA : ∀ q : Nat, s.heap.size ≤ q → va_A [(o, .inr (0, [.int (zI P), .int (zI S), .int (zI K), .int (zI N), .int ty, .int px, .int pr, .int (zI w), .int (zI ch), .ref oa, .ref ba])), (oa, .inl (yZ, 72, .inl (aw_f ob))), (ba, .inl (yI, 72, .inl g))] s.heap.size q := fun q h => Or.inr h
  have hS : va_S (va_A [(o, .inr (0, [.int (zI P), .int (zI S), .int (zI K), .int (zI N), .int ty, .int px, .int pr, .int (zI w), .int (zI ch), .ref oa, .ref ba])), (oa, .inl (yZ, 72, .inl (aw_f ob))), (ba, .inl (yI, 72, .inl g))] s.heap.size) s.heap s.heap [] := va_S.rf
  have hin : ∀ w ∈ wsX00, w ∈ wsX0_setOpen := fun w h => List.mem_cons_of_mem _ (List.mem_append_right _ h)
  have hf_9 := hts (.fieldLink RX0 9 "ArmatureWinding" "open" "[Z") (by decide +kernel)
  have hf_21 := hts (.fieldLink RX0 21 "ArmatureWinding" "coils" "I") (by decide +kernel)
  have hl := lv_entry ([.ref o, .int (zI q), .int (zI (aw_b bv))]) (n := 4) (Nat.le_of_ble_eq_true rfl)
  rw [lg_entry_eq]
  generalize (lg_sl ([.ref o, .int (zI q), .int (zI (aw_b bv))]) ++ List.replicate (4 - (lg_sl ([.ref o, .int (zI q), .int (zI (aw_b bv))])).length) Slot.unset).toArray = ls at hl ⊢
  have hl : lv_has ls 4 [(0, .ref o), (1, .int (zI q)), (2, .int (zI (aw_b bv)))] := hl
  refine lv_iload_n hx hb dX0_setOpen_0 rfl (lv_at hl 1 rfl) ?_
  refine zb_ilt (tgt := 21) hx hb dX0_setOpen_1 (by decide) (by omega) (fun c1 => absurd c1 (by omega)) (fun c1 => ?_)
  refine lv_iload_n hx hb dX0_setOpen_4 rfl (lv_at hl 1 rfl) ?_
  refine lv_aload_n hx hb dX0_setOpen_5 rfl (lv_at hl 0 rfl) ?_
  refine va_get (D := D) (ci := 0) (v := .int (zI N)) (C := RX0) (T := TX0) (N := 11) hx hb hts hin hown hK hP 0 rfl rfl 3 (by decide) hf_21 (fun _ h9 => h9) rfl dX0_setOpen_6 ?_
  refine zb_cge (tgt := 21) hx hb dX0_setOpen_9 (by decide) (by omega) (by omega) (fun c9 => absurd c9 (by omega)) (fun c9 => ?_)
  refine lv_iload_n hx hb dX0_setOpen_12 rfl (lv_at hl 1 rfl) ?_
  refine lv_aload_n hx hb dX0_setOpen_13 rfl (lv_at hl 0 rfl) ?_
  refine va_get (D := D) (ci := 0) (v := .ref oa) (C := RX0) (T := TX0) (N := 11) hx hb hts hin hown hK hP 0 rfl rfl 9 (by decide) hf_9 (fun _ h9 => h9) rfl dX0_setOpen_14 ?_
  refine va_alen hx hb hK hP 1 0 rfl rfl (v := zI 72) (show Int32.ofNat 72 = zI 72 from by decide) dX0_setOpen_17 ?_
  refine zb_clt (tgt := 25) hx hb dX0_setOpen_18 (by decide) (by omega) (by omega) (fun c18 => ?_) (fun c18 => absurd c18 (by omega))
  refine lv_aload_n hx hb dX0_setOpen_25 rfl (lv_at hl 0 rfl) ?_
  refine lv_iload_n hx hb dX0_setOpen_26 rfl (lv_at hl 1 rfl) ?_
  refine aw_callV (As := [.int (zI q)]) (rest := []) ⟨hx, hb, hml, hown, hts⟩ (k_openMark (z := q) ⟨by omega, by omega⟩) (cwV 1 hts gX0_setOpen_X0_openMark rfl rfl rfl (by decide +kernel) ⟨Nat.le_of_ble_eq_true rfl, Nat.le_of_ble_eq_true rfl⟩) hP hK rfl rfl rfl hl.1 rfl (Nat.le_of_ble_eq_true rfl) dX0_setOpen_27 ⟨Nat.zero_le _, Nat.zero_le _⟩ ?_
  refine lv_istore_n (lv' := [(3, .int (zI (aw_b (ob q)))), (0, .ref o), (1, .int (zI q)), (2, .int (zI (aw_b bv)))]) hx hb dX0_setOpen_30 rfl hl (by decide) rfl (fun ls hl => ?_)
  refine lv_aload_n hx hb dX0_setOpen_31 rfl (lv_at hl 1 rfl) ?_
  refine va_get (D := D) (ci := 0) (v := .ref oa) (C := RX0) (T := TX0) (N := 11) hx hb hts hin hown hK hP 0 rfl rfl 9 (by decide) hf_9 (fun _ h9 => h9) rfl dX0_setOpen_32 ?_
  refine lv_iload_n hx hb dX0_setOpen_35 rfl (lv_at hl 2 rfl) ?_
  refine lv_iload_n hx hb dX0_setOpen_36 rfl (lv_at hl 3 rfl) ?_
  refine aw_zst hx hb hK hP hD hS 1 0 rfl rfl bv (by omega) (by omega) dX0_setOpen_37 (fun H locs hP hD hS => ?_)
  have hP : va_P D vwCl [(o, .inr (0, [.int (zI P), .int (zI S), .int (zI K), .int (zI N), .int ty, .int px, .int pr, .int (zI w), .int (zI ch), .ref oa, .ref ba])), (oa, .inl (yZ, 72, .inl (aw_f (aw_up ob q bv)))), (ba, .inl (yI, 72, .inl g))] H := hP
  have hD : va_D _ [(o, .inr (0, [.int (zI P), .int (zI S), .int (zI K), .int (zI N), .int ty, .int px, .int pr, .int (zI w), .int (zI ch), .ref oa, .ref ba])), (oa, .inl (yZ, 72, .inl (aw_f (aw_up ob q bv)))), (ba, .inl (yI, 72, .inl g))] := hD
  refine lv_iload_n hx hb dX0_setOpen_38 rfl (lv_at hl 0 rfl) ?_
  exact aw_iretM () hx hb hr hlocks dX0_setOpen_39 rfl trivial hP hK hD hS
end
