section
variable {l : Launch} {D : va_G} {yZ yI : ClassId} {o oa ba da pa : Nat} {P S K N w ch : Int} {ty px pr : Int32} {ob : Int → Bool} {g pf : Nat → Int32} {dv : Nat → Int}
set_option maxHeartbeats 4000000 in
set_option maxRecDepth 100000 in
/-- the law's changes: true -/
theorem k_changes (hI : aw_In (dv 0) (dv 1) (dv 2) (dv 3) (dv 7) (dv 8)) (hO : aw_OB pf ob) {x y : Int} (hx0 : 0 ≤ x ∧ x < 2147483648) (hy0 : 0 ≤ y ∧ y < 2147483648) : aw_MU (S := aw_S5) l yL_changes wsL_changes (aw_rm 5 114) D (aw_T yZ yI) [(o, .inr (0, [.int (zI (dv 0)), .int (zI (dv 1)), .int (zI (dv 2)), .int (zI (dv 3)), .int ty, .int px, .int pr, .int (zI (dv 7)), .int (zI (dv 8)), .ref oa, .ref ba])), (oa, .inl (yZ, 72, .inl (aw_f ob))), (ba, .inl (yI, 72, .inl g)), aw_Dr yI da dv, aw_Mr yI pa pf] [.ref o, .int (zI x), .int (zI y), .ref da, .ref pa] (some (1)) (aw_p5) (fun u => aw_w5 yZ yI o oa ba da pa u) := by
  intro sz
  refine Met.ofW (cc := cL_changes) (maxL := 9) (ret := (some .boolean)) (by decide) rfl ?_
  intro p e s m args below meth c s₁ B hml hv
  obtain ⟨rfl, hsz, hP, hK, hD0⟩ := hv
  have hx := B.exec
  have hb := B.bytes
  have hr := B.returns
  have hts := atoms_spec (ws := wsL_changes) B.pre
  have hown : s.vm.findClass RL = some m.cls := findClass_of_methodNamed B.named
  have hlocks := B.notSynchronized
  subst hsz
  have hD := hD0.self (sz := s.heap.size)
  have hA : ∀ q : Nat, s.heap.size ≤ q → va_A [(o, .inr (0, [.int (zI (dv 0)), .int (zI (dv 1)), .int (zI (dv 2)), .int (zI (dv 3)), .int ty, .int px, .int pr, .int (zI (dv 7)), .int (zI (dv 8)), .ref oa, .ref ba])), (oa, .inl (yZ, 72, .inl (aw_f ob))), (ba, .inl (yI, 72, .inl g)), aw_Dr yI da dv, aw_Mr yI pa pf] s.heap.size q := fun q h => Or.inr h
  have hS : va_S (va_A [(o, .inr (0, [.int (zI (dv 0)), .int (zI (dv 1)), .int (zI (dv 2)), .int (zI (dv 3)), .int ty, .int px, .int pr, .int (zI (dv 7)), .int (zI (dv 8)), .ref oa, .ref ba])), (oa, .inl (yZ, 72, .inl (aw_f ob))), (ba, .inl (yI, 72, .inl g)), aw_Dr yI da dv, aw_Mr yI pa pf] s.heap.size) s.heap s.heap [] := va_S.rf
  have hl := lv_entry ([.ref o, .int (zI x), .int (zI y), .ref da, .ref pa]) (n := 9) (Nat.le_of_ble_eq_true rfl)
  rw [lg_entry_eq]
  generalize (lg_sl ([.ref o, .int (zI x), .int (zI y), .ref da, .ref pa]) ++ List.replicate (9 - (lg_sl ([.ref o, .int (zI x), .int (zI y), .ref da, .ref pa])).length) Slot.unset).toArray = ls at hl ⊢
  have hl : lv_has ls 9 [(0, .ref o), (1, .int (zI x)), (2, .int (zI y)), (3, .ref da), (4, .ref pa)] := hl
  obtain ⟨i1, i2, i3, i4, i5, i6, i7, i8, i9, i10, i11, i12, i13⟩ := id hI
  refine lv_iload_n hx hb dL_changes_0 rfl (lv_at hl 1 rfl) ?_
  refine zb_bipush hx hb dL_changes_1 (by decide) ?_
  refine zb_rem hx hb dL_changes_3 (by omega) (by omega) ?_
  refine zb_nm (fun a e_a => ?_)
  refine lv_istore (lv' := [(5, .int (zI a)), (0, .ref o), (1, .int (zI x)), (2, .int (zI y)), (3, .ref da), (4, .ref pa)]) hx hb dL_changes_4 hl (by decide) rfl (fun ls hl => ?_)
  refine lv_iload hx hb dL_changes_6 (lv_at hl 0 rfl) ?_
  refine zb_ine (tgt := 20) hx hb dL_changes_8 (by decide) (by omega) (fun c8 => ?_) (fun c8 => ?_)
  · skip
    refine lv_iload hx hb dL_changes_20 (lv_at hl 0 rfl) ?_
    refine zb_iconst hx hb dL_changes_22 ?_
    refine zb_cge (tgt := 33) hx hb dL_changes_23 (by decide) (by omega) (by omega) (fun c23 => ?_) (fun c23 => ?_)
    · skip
      refine lv_iload hx hb dL_changes_33 (lv_at hl 0 rfl) ?_
      refine zb_iconst hx hb dL_changes_35 ?_
      refine zb_cne (tgt := 95) hx hb dL_changes_36 (by decide) (by omega) (by omega) (fun c36 => ?_) (fun c36 => ?_)
      · skip
        refine lv_iload_n hx hb dL_changes_95 rfl (lv_at hl 3 rfl) ?_
        refine lv_aload_n hx hb dL_changes_96 rfl (lv_at hl 4 rfl) ?_
        refine zb_iconst hx hb dL_changes_97 ?_
        refine aw_dld hx hb hK hP 3 1 rfl rfl 3 (by decide) dL_changes_98 ?_
        refine zb_rem hx hb dL_changes_99 (by omega) (by omega) ?_
        refine zb_nm (fun q e_q => ?_)
        have hq : 0 ≤ q ∧ q < dv 3 := by rw [e_q]; exact aw_mod (by omega)
        have hbq := aw_b_01 (ob q)
        refine lv_istore (lv' := [(6, .int (zI q)), (5, .int (zI a)), (0, .ref o), (1, .int (zI x)), (2, .int (zI y)), (3, .ref da), (4, .ref pa)]) hx hb dL_changes_100 hl (by decide) rfl (fun ls hl => ?_)
        refine lv_aload hx hb dL_changes_102 (lv_at hl 6 rfl) ?_
        refine lv_iload hx hb dL_changes_104 (lv_at hl 0 rfl) ?_
        refine aw_callS (As := [.ref pa, .int (zI q)]) (rest := []) ⟨hx, hb, hml, hown, hts⟩ (k_lisOpen (z := q) hO ⟨by omega, by omega⟩) (va_cwS 2 hts gL_changes_L_isOpen rfl rfl rfl (by decide +kernel) ⟨Nat.le_of_ble_eq_true rfl, Nat.le_of_ble_eq_true rfl⟩) (hP.sub (ws' := [aw_Mr yI pa pf]) [4] rfl) hK rfl hl.1 rfl (Nat.le_of_ble_eq_true rfl) dL_changes_106 ⟨Nat.zero_le _, Nat.zero_le _⟩ ?_
        refine zb_join (fun v7 => v7 = aw_b (ob q)) (pcj := 117) (lj := ls) (rj := []) (fun v7 hv7 => ?_) (fun hj117 => ?_)
        rotate_left
        · skip
          refine zb_ieq (tgt := 116) hx hb dL_changes_109 (by decide) (by omega) (fun c109 => ?_) (fun c109 => ?_)
          · skip
            refine zb_iconst hx hb dL_changes_116 ?_
            exact hj117 0 (by omega)
          · skip
            refine zb_iconst hx hb dL_changes_112 ?_
            refine lv_goto (tgt := 117) hx hb dL_changes_113 (by decide) ?_
            exact hj117 1 (by omega)
        · skip
          refine lv_istore (lv' := [(7, .int (zI v7)), (6, .int (zI q)), (5, .int (zI a)), (0, .ref o), (1, .int (zI x)), (2, .int (zI y)), (3, .ref da), (4, .ref pa)]) hx hb dL_changes_117 hl (by decide) rfl (fun ls hl => ?_)
          refine lv_iload_n hx hb dL_changes_119 rfl (lv_at hl 5 rfl) ?_
          refine zb_sipush hx hb dL_changes_120 (by decide) ?_
          refine zb_div hx hb dL_changes_123 (by omega) (by omega) ?_
          refine zb_iconst hx hb dL_changes_124 ?_
          refine zb_rem hx hb dL_changes_125 (by omega) (by omega) ?_
          refine zb_join (fun v8 => v8 = aw_b (decide (0 < y / 128 % 3))) (pcj := 134) (lj := ls) (rj := []) (fun v8 hv8 => ?_) (fun hj134 => ?_)
          rotate_left
          · skip
            refine zb_ile (tgt := 133) hx hb dL_changes_126 (by decide) (by omega) (fun c126 => ?_) (fun c126 => ?_)
            · skip
              refine zb_iconst hx hb dL_changes_133 ?_
              exact hj134 0 (by rw [decide_eq_false (by omega)]; rfl)
            · skip
              refine zb_iconst hx hb dL_changes_129 ?_
              refine lv_goto (tgt := 134) hx hb dL_changes_130 (by decide) ?_
              exact hj134 1 (by rw [decide_eq_true (by omega)]; rfl)
          · skip
            obtain ⟨bv, hbv⟩ : ∃ bv : Bool, bv = decide (0 < y / 128 % 3) := ⟨_, rfl⟩
            rw [← hbv] at hv8
            subst hv8
            have hbb := aw_b_01 bv
            refine lv_istore (lv' := [(8, .int (zI (aw_b bv))), (7, .int (zI v7)), (6, .int (zI q)), (5, .int (zI a)), (0, .ref o), (1, .int (zI x)), (2, .int (zI y)), (3, .ref da), (4, .ref pa)]) hx hb dL_changes_134 hl (by decide) rfl (fun ls hl => ?_)
            refine lv_aload hx hb dL_changes_136 (lv_at hl 8 rfl) ?_
            refine lv_iload hx hb dL_changes_138 (lv_at hl 2 rfl) ?_
            refine zb_bipush hx hb dL_changes_140 (by decide) ?_
            refine zb_div hx hb dL_changes_142 (by omega) (by omega) ?_
            refine lv_iload hx hb dL_changes_143 (lv_at hl 0 rfl) ?_
            refine zb_ieq (tgt := 167) hx hb dL_changes_145 (by decide) (by omega) (fun c145 => ?_) (fun c145 => ?_)
            · skip
              refine lv_aload hx hb dL_changes_167 (lv_at hl 8 rfl) ?_
              refine lv_iload hx hb dL_changes_169 (lv_at hl 2 rfl) ?_
              refine zb_bipush hx hb dL_changes_171 (by decide) ?_
              refine zb_div hx hb dL_changes_173 (by omega) (by omega) ?_
              refine va_iald hx hb hK hP 4 1 rfl rfl (zI_in (by omega) (by omega) (by omega)) dL_changes_174 ?_
              refine zb_iconst hx hb dL_changes_175 ?_
              refine lv_iload hx hb dL_changes_176 (lv_at hl 2 rfl) ?_
              refine zb_bipush hx hb dL_changes_178 (by decide) ?_
              refine zb_rem hx hb dL_changes_180 (by omega) (by omega) ?_
              refine lv_ishl hx hb dL_changes_181 ?_
              refine zb_iconst hx hb dL_changes_182 ?_
              refine lv_ixor hx hb dL_changes_183 ?_
              refine lv_iand hx hb dL_changes_184 ?_
              refine va_iast hx hb hK hP hD hS 4 1 rfl rfl (zI_in (by omega) (by omega) (by omega)) dL_changes_185 (fun H locs hP hD hS => ?_)
              have hP : va_P D vwCl [(o, .inr (0, [.int (zI (dv 0)), .int (zI (dv 1)), .int (zI (dv 2)), .int (zI (dv 3)), .int ty, .int px, .int pr, .int (zI (dv 7)), .int (zI (dv 8)), .ref oa, .ref ba])), (oa, .inl (yZ, 72, .inl (aw_f ob))), (ba, .inl (yI, 72, .inl g)), aw_Dr yI da dv, aw_Mr yI pa (upd pf (zI (q / 24)).toNatClampNeg (pf (zI (q / 24)).toNatClampNeg &&& ((zI 1 <<< (zI (q % 24) &&& 31)) ^^^ zI (-1))))] H := hP
              have hD : va_D _ [(o, .inr (0, [.int (zI (dv 0)), .int (zI (dv 1)), .int (zI (dv 2)), .int (zI (dv 3)), .int ty, .int px, .int pr, .int (zI (dv 7)), .int (zI (dv 8)), .ref oa, .ref ba])), (oa, .inl (yZ, 72, .inl (aw_f ob))), (ba, .inl (yI, 72, .inl g)), aw_Dr yI da dv, aw_Mr yI pa (upd pf (zI (q / 24)).toNatClampNeg (pf (zI (q / 24)).toNatClampNeg &&& ((zI 1 <<< (zI (q % 24) &&& 31)) ^^^ zI (-1))))] := hD
              refine lv_aload_n hx hb dL_changes_186 rfl (lv_at hl 4 rfl) ?_
              refine lv_aload_n hx hb dL_changes_187 rfl (lv_at hl 7 rfl) ?_
              refine zb_iconst hx hb dL_changes_188 ?_
              refine aw_dld hx hb hK hP 3 1 rfl rfl 3 (by decide) dL_changes_189 ?_
              refine lv_iload hx hb dL_changes_190 (lv_at hl 0 rfl) ?_
              refine aw_callV (As := [.int (zI (dv 3)), .int (zI (aw_b bv))]) (rest := []) ⟨hx, hb, hml, hown, hts⟩ (k_setOpen_no (q := dv 3) (b := aw_b bv) ⟨by omega, by omega⟩ ⟨by omega, by omega⟩ (by omega)) (cwV 2 hts gL_changes_X0_setOpen rfl rfl rfl (by decide +kernel) ⟨Nat.le_of_ble_eq_true rfl, Nat.le_of_ble_eq_true rfl⟩) (hP.sub (ws' := [(o, .inr (0, [.int (zI (dv 0)), .int (zI (dv 1)), .int (zI (dv 2)), .int (zI (dv 3)), .int ty, .int px, .int pr, .int (zI (dv 7)), .int (zI (dv 8)), .ref oa, .ref ba])), (oa, .inl (yZ, 72, .inl (aw_f ob))), (ba, .inl (yI, 72, .inl g))]) [0, 1, 2] rfl) hK rfl rfl rfl hl.1 rfl (Nat.le_of_ble_eq_true rfl) dL_changes_192 ⟨Nat.zero_le _, Nat.zero_le _⟩ ?_
              refine zb_sipush hx hb dL_changes_195 (by decide) ?_
              refine zb_cne (tgt := 231) hx hb dL_changes_198 (by decide) (by omega) (by omega) (fun c198 => absurd c198 (by omega)) (fun c198 => ?_)
              refine lv_aload_n hx hb dL_changes_201 rfl (lv_at hl 4 rfl) ?_
              refine zb_iconst hx hb dL_changes_202 ?_
              refine lv_iload hx hb dL_changes_203 (lv_at hl 0 rfl) ?_
              refine aw_callV (As := [.int (zI ((-1))), .int (zI (aw_b bv))]) (rest := []) ⟨hx, hb, hml, hown, hts⟩ (k_setOpen_no (q := -1) (b := aw_b bv) ⟨by omega, by omega⟩ ⟨by omega, by omega⟩ (by omega)) (cwV 2 hts gL_changes_X0_setOpen rfl rfl rfl (by decide +kernel) ⟨Nat.le_of_ble_eq_true rfl, Nat.le_of_ble_eq_true rfl⟩) (hP.sub (ws' := [(o, .inr (0, [.int (zI (dv 0)), .int (zI (dv 1)), .int (zI (dv 2)), .int (zI (dv 3)), .int ty, .int px, .int pr, .int (zI (dv 7)), .int (zI (dv 8)), .ref oa, .ref ba])), (oa, .inl (yZ, 72, .inl (aw_f ob))), (ba, .inl (yI, 72, .inl g))]) [0, 1, 2] rfl) hK rfl rfl rfl hl.1 rfl (Nat.le_of_ble_eq_true rfl) dL_changes_205 ⟨Nat.zero_le _, Nat.zero_le _⟩ ?_
              refine zb_sipush hx hb dL_changes_208 (by decide) ?_
              refine zb_cne (tgt := 231) hx hb dL_changes_211 (by decide) (by omega) (by omega) (fun c211 => absurd c211 (by omega)) (fun c211 => ?_)
              refine lv_aload_n hx hb dL_changes_214 rfl (lv_at hl 4 rfl) ?_
              refine lv_iload hx hb dL_changes_215 (lv_at hl 2 rfl) ?_
              refine lv_iload hx hb dL_changes_217 (lv_at hl 0 rfl) ?_
              refine aw_callMV (As := [.int (zI q), .int (zI (aw_b bv))]) (rest := []) (wc := [(o, .inr (0, [.int (zI (dv 0)), .int (zI (dv 1)), .int (zI (dv 2)), .int (zI (dv 3)), .int ty, .int px, .int pr, .int (zI (dv 7)), .int (zI (dv 8)), .ref oa, .ref ba])), (oa, .inl (yZ, 72, .inl (aw_f ob))), (ba, .inl (yI, 72, .inl g))]) (wr := [aw_Dr yI da dv, aw_Mr yI pa (upd pf (zI (q / 24)).toNatClampNeg (pf (zI (q / 24)).toNatClampNeg &&& ((zI 1 <<< (zI (q % 24) &&& 31)) ^^^ zI (-1))))]) (ws2 := fun u => [(o, .inr (0, [.int (zI (dv 0)), .int (zI (dv 1)), .int (zI (dv 2)), .int (zI (dv 3)), .int ty, .int px, .int pr, .int (zI (dv 7)), .int (zI (dv 8)), .ref oa, .ref ba])), (oa, .inl (yZ, 72, .inl (aw_f (aw_up ob q bv)))), (ba, .inl (yI, 72, .inl g)), aw_Dr yI da dv, aw_Mr yI pa (upd pf (zI (q / 24)).toNatClampNeg (pf (zI (q / 24)).toNatClampNeg &&& ((zI 1 <<< (zI (q % 24) &&& 31)) ^^^ zI (-1))))]) ⟨hx, hb, hml, hown, hts⟩ (k_setOpen (q := q) (bv := bv) ⟨by omega, by omega⟩ hq) (cwV 2 hts gL_changes_X0_setOpen rfl rfl rfl (by decide +kernel) ⟨Nat.le_of_ble_eq_true rfl, Nat.le_of_ble_eq_true rfl⟩) hP hD hK hS hA rfl rfl [0, 1, 2] [3, 4] rfl rfl (by decide) (by decide) (by decide) [2, 3, 4, 0, 1] (by decide) (fun _ => rfl) rfl hl.1 rfl (Nat.le_of_ble_eq_true rfl) dL_changes_219 ⟨Nat.zero_le _, Nat.zero_le _⟩ (fun u H locs hu hP hD hS => ?_)
              have hP : va_P D vwCl [(o, .inr (0, [.int (zI (dv 0)), .int (zI (dv 1)), .int (zI (dv 2)), .int (zI (dv 3)), .int ty, .int px, .int pr, .int (zI (dv 7)), .int (zI (dv 8)), .ref oa, .ref ba])), (oa, .inl (yZ, 72, .inl (aw_f (aw_up ob q bv)))), (ba, .inl (yI, 72, .inl g)), aw_Dr yI da dv, aw_Mr yI pa (upd pf (zI (q / 24)).toNatClampNeg (pf (zI (q / 24)).toNatClampNeg &&& ((zI 1 <<< (zI (q % 24) &&& 31)) ^^^ zI (-1))))] H := hP
              have hD : va_D _ [(o, .inr (0, [.int (zI (dv 0)), .int (zI (dv 1)), .int (zI (dv 2)), .int (zI (dv 3)), .int ty, .int px, .int pr, .int (zI (dv 7)), .int (zI (dv 8)), .ref oa, .ref ba])), (oa, .inl (yZ, 72, .inl (aw_f (aw_up ob q bv)))), (ba, .inl (yI, 72, .inl g)), aw_Dr yI da dv, aw_Mr yI pa (upd pf (zI (q / 24)).toNatClampNeg (pf (zI (q / 24)).toNatClampNeg &&& ((zI 1 <<< (zI (q % 24) &&& 31)) ^^^ zI (-1))))] := hD
              refine W.eq (g2 := F0 m 222 ls [.int (zI (aw_b (ob q)))]) rfl ?_
              refine lv_iload hx hb dL_changes_222 (lv_at hl 1 rfl) ?_
              refine zb_cne (tgt := 231) hx hb dL_changes_224 (by decide) (by omega) (by omega) (fun c224 => absurd c224 (by omega)) (fun c224 => ?_)
              refine zb_iconst hx hb dL_changes_227 ?_
              refine lv_goto (tgt := 232) hx hb dL_changes_228 (by decide) ?_
              exact aw_zretM (z := 1) (post := aw_p5) (ws' := fun u => aw_w5 yZ yI o oa ba da pa u) ((dv, upd pf (zI (q / 24)).toNatClampNeg (pf (zI (q / 24)).toNatClampNeg &&& ((zI 1 <<< (zI (q % 24) &&& 31)) ^^^ zI (-1))), aw_up ob q bv, (ty, px, pr), g) : aw_S5) hx hb hr hlocks dL_changes_232 (by omega) (by first | rfl | omega) ⟨hI, by show aw_OB _ (aw_up ob q bv); rw [aw_b_eq0.mp c145]; exact aw_OB_clr hO (by omega) (by omega)⟩ hP hK hD hS
            · skip
              refine lv_aload hx hb dL_changes_148 (lv_at hl 8 rfl) ?_
              refine lv_iload hx hb dL_changes_150 (lv_at hl 2 rfl) ?_
              refine zb_bipush hx hb dL_changes_152 (by decide) ?_
              refine zb_div hx hb dL_changes_154 (by omega) (by omega) ?_
              refine va_iald hx hb hK hP 4 1 rfl rfl (zI_in (by omega) (by omega) (by omega)) dL_changes_155 ?_
              refine zb_iconst hx hb dL_changes_156 ?_
              refine lv_iload hx hb dL_changes_157 (lv_at hl 2 rfl) ?_
              refine zb_bipush hx hb dL_changes_159 (by decide) ?_
              refine zb_rem hx hb dL_changes_161 (by omega) (by omega) ?_
              refine lv_ishl hx hb dL_changes_162 ?_
              refine lv_ior hx hb dL_changes_163 ?_
              refine lv_goto (tgt := 185) hx hb dL_changes_164 (by decide) ?_
              refine va_iast hx hb hK hP hD hS 4 1 rfl rfl (zI_in (by omega) (by omega) (by omega)) dL_changes_185 (fun H locs hP hD hS => ?_)
              have hP : va_P D vwCl [(o, .inr (0, [.int (zI (dv 0)), .int (zI (dv 1)), .int (zI (dv 2)), .int (zI (dv 3)), .int ty, .int px, .int pr, .int (zI (dv 7)), .int (zI (dv 8)), .ref oa, .ref ba])), (oa, .inl (yZ, 72, .inl (aw_f ob))), (ba, .inl (yI, 72, .inl g)), aw_Dr yI da dv, aw_Mr yI pa (upd pf (zI (q / 24)).toNatClampNeg (pf (zI (q / 24)).toNatClampNeg ||| (zI 1 <<< (zI (q % 24) &&& 31))))] H := hP
              have hD : va_D _ [(o, .inr (0, [.int (zI (dv 0)), .int (zI (dv 1)), .int (zI (dv 2)), .int (zI (dv 3)), .int ty, .int px, .int pr, .int (zI (dv 7)), .int (zI (dv 8)), .ref oa, .ref ba])), (oa, .inl (yZ, 72, .inl (aw_f ob))), (ba, .inl (yI, 72, .inl g)), aw_Dr yI da dv, aw_Mr yI pa (upd pf (zI (q / 24)).toNatClampNeg (pf (zI (q / 24)).toNatClampNeg ||| (zI 1 <<< (zI (q % 24) &&& 31))))] := hD
              refine lv_aload_n hx hb dL_changes_186 rfl (lv_at hl 4 rfl) ?_
              refine lv_aload_n hx hb dL_changes_187 rfl (lv_at hl 7 rfl) ?_
              refine zb_iconst hx hb dL_changes_188 ?_
              refine aw_dld hx hb hK hP 3 1 rfl rfl 3 (by decide) dL_changes_189 ?_
              refine lv_iload hx hb dL_changes_190 (lv_at hl 0 rfl) ?_
              refine aw_callV (As := [.int (zI (dv 3)), .int (zI (aw_b bv))]) (rest := []) ⟨hx, hb, hml, hown, hts⟩ (k_setOpen_no (q := dv 3) (b := aw_b bv) ⟨by omega, by omega⟩ ⟨by omega, by omega⟩ (by omega)) (cwV 2 hts gL_changes_X0_setOpen rfl rfl rfl (by decide +kernel) ⟨Nat.le_of_ble_eq_true rfl, Nat.le_of_ble_eq_true rfl⟩) (hP.sub (ws' := [(o, .inr (0, [.int (zI (dv 0)), .int (zI (dv 1)), .int (zI (dv 2)), .int (zI (dv 3)), .int ty, .int px, .int pr, .int (zI (dv 7)), .int (zI (dv 8)), .ref oa, .ref ba])), (oa, .inl (yZ, 72, .inl (aw_f ob))), (ba, .inl (yI, 72, .inl g))]) [0, 1, 2] rfl) hK rfl rfl rfl hl.1 rfl (Nat.le_of_ble_eq_true rfl) dL_changes_192 ⟨Nat.zero_le _, Nat.zero_le _⟩ ?_
              refine zb_sipush hx hb dL_changes_195 (by decide) ?_
              refine zb_cne (tgt := 231) hx hb dL_changes_198 (by decide) (by omega) (by omega) (fun c198 => absurd c198 (by omega)) (fun c198 => ?_)
              refine lv_aload_n hx hb dL_changes_201 rfl (lv_at hl 4 rfl) ?_
              refine zb_iconst hx hb dL_changes_202 ?_
              refine lv_iload hx hb dL_changes_203 (lv_at hl 0 rfl) ?_
              refine aw_callV (As := [.int (zI ((-1))), .int (zI (aw_b bv))]) (rest := []) ⟨hx, hb, hml, hown, hts⟩ (k_setOpen_no (q := -1) (b := aw_b bv) ⟨by omega, by omega⟩ ⟨by omega, by omega⟩ (by omega)) (cwV 2 hts gL_changes_X0_setOpen rfl rfl rfl (by decide +kernel) ⟨Nat.le_of_ble_eq_true rfl, Nat.le_of_ble_eq_true rfl⟩) (hP.sub (ws' := [(o, .inr (0, [.int (zI (dv 0)), .int (zI (dv 1)), .int (zI (dv 2)), .int (zI (dv 3)), .int ty, .int px, .int pr, .int (zI (dv 7)), .int (zI (dv 8)), .ref oa, .ref ba])), (oa, .inl (yZ, 72, .inl (aw_f ob))), (ba, .inl (yI, 72, .inl g))]) [0, 1, 2] rfl) hK rfl rfl rfl hl.1 rfl (Nat.le_of_ble_eq_true rfl) dL_changes_205 ⟨Nat.zero_le _, Nat.zero_le _⟩ ?_
              refine zb_sipush hx hb dL_changes_208 (by decide) ?_
              refine zb_cne (tgt := 231) hx hb dL_changes_211 (by decide) (by omega) (by omega) (fun c211 => absurd c211 (by omega)) (fun c211 => ?_)
              refine lv_aload_n hx hb dL_changes_214 rfl (lv_at hl 4 rfl) ?_
              refine lv_iload hx hb dL_changes_215 (lv_at hl 2 rfl) ?_
              refine lv_iload hx hb dL_changes_217 (lv_at hl 0 rfl) ?_
              refine aw_callMV (As := [.int (zI q), .int (zI (aw_b bv))]) (rest := []) (wc := [(o, .inr (0, [.int (zI (dv 0)), .int (zI (dv 1)), .int (zI (dv 2)), .int (zI (dv 3)), .int ty, .int px, .int pr, .int (zI (dv 7)), .int (zI (dv 8)), .ref oa, .ref ba])), (oa, .inl (yZ, 72, .inl (aw_f ob))), (ba, .inl (yI, 72, .inl g))]) (wr := [aw_Dr yI da dv, aw_Mr yI pa (upd pf (zI (q / 24)).toNatClampNeg (pf (zI (q / 24)).toNatClampNeg ||| (zI 1 <<< (zI (q % 24) &&& 31))))]) (ws2 := fun u => [(o, .inr (0, [.int (zI (dv 0)), .int (zI (dv 1)), .int (zI (dv 2)), .int (zI (dv 3)), .int ty, .int px, .int pr, .int (zI (dv 7)), .int (zI (dv 8)), .ref oa, .ref ba])), (oa, .inl (yZ, 72, .inl (aw_f (aw_up ob q bv)))), (ba, .inl (yI, 72, .inl g)), aw_Dr yI da dv, aw_Mr yI pa (upd pf (zI (q / 24)).toNatClampNeg (pf (zI (q / 24)).toNatClampNeg ||| (zI 1 <<< (zI (q % 24) &&& 31))))]) ⟨hx, hb, hml, hown, hts⟩ (k_setOpen (q := q) (bv := bv) ⟨by omega, by omega⟩ hq) (cwV 2 hts gL_changes_X0_setOpen rfl rfl rfl (by decide +kernel) ⟨Nat.le_of_ble_eq_true rfl, Nat.le_of_ble_eq_true rfl⟩) hP hD hK hS hA rfl rfl [0, 1, 2] [3, 4] rfl rfl (by decide) (by decide) (by decide) [2, 3, 4, 0, 1] (by decide) (fun _ => rfl) rfl hl.1 rfl (Nat.le_of_ble_eq_true rfl) dL_changes_219 ⟨Nat.zero_le _, Nat.zero_le _⟩ (fun u H locs hu hP hD hS => ?_)
              have hP : va_P D vwCl [(o, .inr (0, [.int (zI (dv 0)), .int (zI (dv 1)), .int (zI (dv 2)), .int (zI (dv 3)), .int ty, .int px, .int pr, .int (zI (dv 7)), .int (zI (dv 8)), .ref oa, .ref ba])), (oa, .inl (yZ, 72, .inl (aw_f (aw_up ob q bv)))), (ba, .inl (yI, 72, .inl g)), aw_Dr yI da dv, aw_Mr yI pa (upd pf (zI (q / 24)).toNatClampNeg (pf (zI (q / 24)).toNatClampNeg ||| (zI 1 <<< (zI (q % 24) &&& 31))))] H := hP
              have hD : va_D _ [(o, .inr (0, [.int (zI (dv 0)), .int (zI (dv 1)), .int (zI (dv 2)), .int (zI (dv 3)), .int ty, .int px, .int pr, .int (zI (dv 7)), .int (zI (dv 8)), .ref oa, .ref ba])), (oa, .inl (yZ, 72, .inl (aw_f (aw_up ob q bv)))), (ba, .inl (yI, 72, .inl g)), aw_Dr yI da dv, aw_Mr yI pa (upd pf (zI (q / 24)).toNatClampNeg (pf (zI (q / 24)).toNatClampNeg ||| (zI 1 <<< (zI (q % 24) &&& 31))))] := hD
              refine W.eq (g2 := F0 m 222 ls [.int (zI (aw_b (ob q)))]) rfl ?_
              refine lv_iload hx hb dL_changes_222 (lv_at hl 1 rfl) ?_
              refine zb_cne (tgt := 231) hx hb dL_changes_224 (by decide) (by omega) (by omega) (fun c224 => absurd c224 (by omega)) (fun c224 => ?_)
              refine zb_iconst hx hb dL_changes_227 ?_
              refine lv_goto (tgt := 232) hx hb dL_changes_228 (by decide) ?_
              exact aw_zretM (z := 1) (post := aw_p5) (ws' := fun u => aw_w5 yZ yI o oa ba da pa u) ((dv, upd pf (zI (q / 24)).toNatClampNeg (pf (zI (q / 24)).toNatClampNeg ||| (zI 1 <<< (zI (q % 24) &&& 31))), aw_up ob q bv, (ty, px, pr), g) : aw_S5) hx hb hr hlocks dL_changes_232 (by omega) (by first | rfl | omega) ⟨hI, by show aw_OB _ (aw_up ob q bv); rw [aw_b_ne0.mp c145]; exact aw_OB_set hO (by omega) (by omega)⟩ hP hK hD hS
      · skip
        refine lv_aload_n hx hb dL_changes_39 rfl (lv_at hl 4 rfl) ?_
        refine zb_bipush hx hb dL_changes_40 (by decide) ?_
        refine aw_dld hx hb hK hP 3 1 rfl rfl 8 (by decide) dL_changes_42 ?_
        refine lv_istore (lv' := [(6, .int (zI (dv 8))), (5, .int (zI a)), (0, .ref o), (1, .int (zI x)), (2, .int (zI y)), (3, .ref da), (4, .ref pa)]) hx hb dL_changes_43 hl (by decide) rfl (fun ls hl => ?_)
        refine lv_aload_n hx hb dL_changes_45 rfl (lv_at hl 5 rfl) ?_
        refine zb_bipush hx hb dL_changes_46 (by decide) ?_
        refine lv_iload_n hx hb dL_changes_48 rfl (lv_at hl 4 rfl) ?_
        refine zb_bipush hx hb dL_changes_49 (by decide) ?_
        refine zb_rem hx hb dL_changes_51 (by omega) (by omega) ?_
        refine zb_nm (fun nc e_nc => ?_)
        have hnc : 0 ≤ nc ∧ nc ≤ 5 := by omega
        have hIn : aw_In (dv 0) (dv 1) (dv 2) (dv 3) (dv 7) nc := ⟨by omega, by omega, by omega, by omega, by omega, by omega, i7, by omega, by omega, by omega, by omega, by omega, by omega⟩
        refine aw_dst hx hb hK hP hD hS 3 1 rfl rfl 8 (by decide) dL_changes_52 (fun H locs hP hD hS => ?_)
        have hP : va_P D vwCl [(o, .inr (0, [.int (zI (dv 0)), .int (zI (dv 1)), .int (zI (dv 2)), .int (zI (dv 3)), .int ty, .int px, .int pr, .int (zI (dv 7)), .int (zI (dv 8)), .ref oa, .ref ba])), (oa, .inl (yZ, 72, .inl (aw_f ob))), (ba, .inl (yI, 72, .inl g)), aw_Dr yI da (aw_ud dv 8 nc), aw_Mr yI pa pf] H := hP
        have hD : va_D _ [(o, .inr (0, [.int (zI (dv 0)), .int (zI (dv 1)), .int (zI (dv 2)), .int (zI (dv 3)), .int ty, .int px, .int pr, .int (zI (dv 7)), .int (zI (dv 8)), .ref oa, .ref ba])), (oa, .inl (yZ, 72, .inl (aw_f ob))), (ba, .inl (yI, 72, .inl g)), aw_Dr yI da (aw_ud dv 8 nc), aw_Mr yI pa pf] := hD
        refine lv_aload_n hx hb dL_changes_53 rfl (lv_at hl 2 rfl) ?_
        refine zb_iconst hx hb dL_changes_54 ?_
        refine aw_callV (As := [.int (zI ((-1)))]) (rest := []) ⟨hx, hb, hml, hown, hts⟩ (k_setChording_no (x := -1) ⟨by omega, by omega⟩ (by omega)) (cwV 1 hts gL_changes_X0_setChording rfl rfl rfl (by decide +kernel) ⟨Nat.le_of_ble_eq_true rfl, Nat.le_of_ble_eq_true rfl⟩) (hP.sub (ws' := [(o, .inr (0, [.int (zI (dv 0)), .int (zI (dv 1)), .int (zI (dv 2)), .int (zI (dv 3)), .int ty, .int px, .int pr, .int (zI (dv 7)), .int (zI (dv 8)), .ref oa, .ref ba])), (oa, .inl (yZ, 72, .inl (aw_f ob))), (ba, .inl (yI, 72, .inl g))]) [0, 1, 2] rfl) hK rfl rfl rfl hl.1 rfl (Nat.le_of_ble_eq_true rfl) dL_changes_55 ⟨Nat.zero_le _, Nat.zero_le _⟩ ?_
        refine zb_sipush hx hb dL_changes_58 (by decide) ?_
        refine zb_cne (tgt := 93) hx hb dL_changes_61 (by decide) (by omega) (by omega) (fun c61 => absurd c61 (by omega)) (fun c61 => ?_)
        refine lv_aload_n hx hb dL_changes_64 rfl (lv_at hl 2 rfl) ?_
        refine zb_bipush hx hb dL_changes_65 (by decide) ?_
        refine aw_callV (As := [.int (zI 6)]) (rest := []) ⟨hx, hb, hml, hown, hts⟩ (k_setChording_no (x := 6) ⟨by omega, by omega⟩ (by omega)) (cwV 1 hts gL_changes_X0_setChording rfl rfl rfl (by decide +kernel) ⟨Nat.le_of_ble_eq_true rfl, Nat.le_of_ble_eq_true rfl⟩) (hP.sub (ws' := [(o, .inr (0, [.int (zI (dv 0)), .int (zI (dv 1)), .int (zI (dv 2)), .int (zI (dv 3)), .int ty, .int px, .int pr, .int (zI (dv 7)), .int (zI (dv 8)), .ref oa, .ref ba])), (oa, .inl (yZ, 72, .inl (aw_f ob))), (ba, .inl (yI, 72, .inl g))]) [0, 1, 2] rfl) hK rfl rfl rfl hl.1 rfl (Nat.le_of_ble_eq_true rfl) dL_changes_67 ⟨Nat.zero_le _, Nat.zero_le _⟩ ?_
        refine zb_sipush hx hb dL_changes_70 (by decide) ?_
        refine zb_cne (tgt := 93) hx hb dL_changes_73 (by decide) (by omega) (by omega) (fun c73 => absurd c73 (by omega)) (fun c73 => ?_)
        refine lv_aload_n hx hb dL_changes_76 rfl (lv_at hl 2 rfl) ?_
        refine lv_aload_n hx hb dL_changes_77 rfl (lv_at hl 5 rfl) ?_
        refine zb_bipush hx hb dL_changes_78 (by decide) ?_
        refine aw_dld hx hb hK hP 3 1 rfl rfl 8 (by decide) dL_changes_80 ?_
        refine zb_as nc rfl ?_
        refine aw_callMV (As := [.int (zI nc)]) (rest := []) (wc := [(o, .inr (0, [.int (zI (dv 0)), .int (zI (dv 1)), .int (zI (dv 2)), .int (zI (dv 3)), .int ty, .int px, .int pr, .int (zI (dv 7)), .int (zI (dv 8)), .ref oa, .ref ba])), (oa, .inl (yZ, 72, .inl (aw_f ob))), (ba, .inl (yI, 72, .inl g))]) (wr := [aw_Dr yI da (aw_ud dv 8 nc), aw_Mr yI pa pf]) (ws2 := fun u => [(o, .inr (0, [.int (zI (dv 0)), .int (zI (dv 1)), .int (zI (dv 2)), .int (zI (dv 3)), .int ty, .int px, .int pr, .int (zI (dv 7)), .int (zI nc), .ref oa, .ref ba])), (oa, .inl (yZ, 72, .inl (aw_f ob))), (ba, .inl (yI, 72, .inl g)), aw_Dr yI da (aw_ud dv 8 nc), aw_Mr yI pa pf]) ⟨hx, hb, hml, hown, hts⟩ (k_setChording (x := nc) hnc) (cwV 1 hts gL_changes_X0_setChording rfl rfl rfl (by decide +kernel) ⟨Nat.le_of_ble_eq_true rfl, Nat.le_of_ble_eq_true rfl⟩) hP hD hK hS hA rfl rfl [0, 1, 2] [3, 4] rfl rfl (by decide) (by decide) (by decide) [2, 3, 4, 0, 1] (by decide) (fun _ => rfl) rfl hl.1 rfl (Nat.le_of_ble_eq_true rfl) dL_changes_81 ⟨Nat.zero_le _, Nat.zero_le _⟩ (fun u H locs hu hP hD hS => ?_)
        have hP : va_P D vwCl [(o, .inr (0, [.int (zI (dv 0)), .int (zI (dv 1)), .int (zI (dv 2)), .int (zI (dv 3)), .int ty, .int px, .int pr, .int (zI (dv 7)), .int (zI nc), .ref oa, .ref ba])), (oa, .inl (yZ, 72, .inl (aw_f ob))), (ba, .inl (yI, 72, .inl g)), aw_Dr yI da (aw_ud dv 8 nc), aw_Mr yI pa pf] H := hP
        have hD : va_D _ [(o, .inr (0, [.int (zI (dv 0)), .int (zI (dv 1)), .int (zI (dv 2)), .int (zI (dv 3)), .int ty, .int px, .int pr, .int (zI (dv 7)), .int (zI nc), .ref oa, .ref ba])), (oa, .inl (yZ, 72, .inl (aw_f ob))), (ba, .inl (yI, 72, .inl g)), aw_Dr yI da (aw_ud dv 8 nc), aw_Mr yI pa pf] := hD
        refine W.eq (g2 := F0 m 84 ls [.int (zI (dv 8))]) rfl ?_
        refine lv_iload hx hb dL_changes_84 (lv_at hl 0 rfl) ?_
        refine zb_cne (tgt := 93) hx hb dL_changes_86 (by decide) (by omega) (by omega) (fun c86 => absurd c86 (by omega)) (fun c86 => ?_)
        refine zb_iconst hx hb dL_changes_89 ?_
        refine lv_goto (tgt := 94) hx hb dL_changes_90 (by decide) ?_
        exact aw_zretM (z := 1) (post := aw_p5) (ws' := fun u => aw_w5 yZ yI o oa ba da pa u) ((aw_ud dv 8 nc, pf, ob, (ty, px, pr), g) : aw_S5) hx hb hr hlocks dL_changes_94 (by omega) (by first | rfl | omega) ⟨hIn, hO⟩ hP hK hD hS
    · skip
      refine lv_aload_n hx hb dL_changes_26 rfl (lv_at hl 1 rfl) ?_
      refine lv_iload_n hx hb dL_changes_27 rfl (lv_at hl 3 rfl) ?_
      refine lv_aload_n hx hb dL_changes_28 rfl (lv_at hl 4 rfl) ?_
      refine aw_callMS (As := [.ref o, .int (zI y), .ref da]) (rest := []) (wc := [(o, .inr (0, [.int (zI (dv 0)), .int (zI (dv 1)), .int (zI (dv 2)), .int (zI (dv 3)), .int ty, .int px, .int pr, .int (zI (dv 7)), .int (zI (dv 8)), .ref oa, .ref ba])), (oa, .inl (yZ, 72, .inl (aw_f ob))), (ba, .inl (yI, 72, .inl g)), aw_Dr yI da dv, aw_Mr yI pa pf]) (wr := []) (ws2 := fun u => [(o, .inr (0, [.int (zI (u.1 0)), .int (zI (u.1 1)), .int (zI (u.1 2)), .int (zI (u.1 3)), .int (u.2.2.2.1.1), .int (u.2.2.2.1.2.1), .int (u.2.2.2.1.2.2), .int (zI (u.1 7)), .int (zI (u.1 8)), .ref oa, .ref ba])), (oa, .inl (yZ, 72, .inl (aw_f (u.2.2.1)))), (ba, .inl (yI, 72, .inl (u.2.2.2.2))), aw_Dr yI da (u.1), aw_Mr yI pa (u.2.1)]) ⟨hx, hb, hml, hown, hts⟩ (k_winding (x := y) hI hO hy0) (va_cwS 3 hts gL_changes_L_winding rfl rfl rfl (by decide +kernel) ⟨Nat.le_of_ble_eq_true rfl, Nat.le_of_ble_eq_true rfl⟩) hP hD hK hS hA [0, 1, 2, 3, 4] [] rfl rfl (by decide) (by decide) (by decide) [0, 1, 2, 3, 4] (by decide) (fun _ => rfl) rfl hl.1 rfl (Nat.le_of_ble_eq_true rfl) dL_changes_29 ⟨Nat.zero_le _, Nat.zero_le _⟩ (fun u H locs hu hP hD hS => ?_)
      obtain ⟨dv2, pf2, ob2, ⟨ty2, px2, pr2⟩, g2⟩ := u
      have hP : va_P D vwCl [(o, .inr (0, [.int (zI (dv2 0)), .int (zI (dv2 1)), .int (zI (dv2 2)), .int (zI (dv2 3)), .int ty2, .int px2, .int pr2, .int (zI (dv2 7)), .int (zI (dv2 8)), .ref oa, .ref ba])), (oa, .inl (yZ, 72, .inl (aw_f ob2))), (ba, .inl (yI, 72, .inl g2)), aw_Dr yI da dv2, aw_Mr yI pa pf2] H := hP
      have hD : va_D _ [(o, .inr (0, [.int (zI (dv2 0)), .int (zI (dv2 1)), .int (zI (dv2 2)), .int (zI (dv2 3)), .int ty2, .int px2, .int pr2, .int (zI (dv2 7)), .int (zI (dv2 8)), .ref oa, .ref ba])), (oa, .inl (yZ, 72, .inl (aw_f ob2))), (ba, .inl (yI, 72, .inl g2)), aw_Dr yI da dv2, aw_Mr yI pa pf2] := hD
      refine W.eq (g2 := F0 m 32 ls [.int (zI 1)]) rfl ?_
      exact aw_zretM (z := 1) (post := aw_p5) (ws' := fun u => aw_w5 yZ yI o oa ba da pa u) ((dv2, pf2, ob2, (ty2, px2, pr2), g2) : aw_S5) hx hb hr hlocks dL_changes_32 (by omega) (by first | rfl | omega) hu hP hK hD hS
  · skip
    refine lv_aload_n hx hb dL_changes_11 rfl (lv_at hl 1 rfl) ?_
    refine lv_iload_n hx hb dL_changes_12 rfl (lv_at hl 3 rfl) ?_
    refine lv_aload_n hx hb dL_changes_13 rfl (lv_at hl 4 rfl) ?_
    refine lv_aload hx hb dL_changes_14 (lv_at hl 5 rfl) ?_
    refine aw_callMS (As := [.ref o, .int (zI y), .ref da, .ref pa]) (rest := []) (wc := [(o, .inr (0, [.int (zI (dv 0)), .int (zI (dv 1)), .int (zI (dv 2)), .int (zI (dv 3)), .int ty, .int px, .int pr, .int (zI (dv 7)), .int (zI (dv 8)), .ref oa, .ref ba])), (oa, .inl (yZ, 72, .inl (aw_f ob))), (ba, .inl (yI, 72, .inl g)), aw_Dr yI da dv, aw_Mr yI pa pf]) (wr := []) (ws2 := fun u => [(o, .inr (0, [.int (zI (u.1 0)), .int (zI (u.1 1)), .int (zI (u.1 2)), .int (zI (u.1 3)), .int (u.2.2.2.1.1), .int (u.2.2.2.1.2.1), .int (u.2.2.2.1.2.2), .int (zI (u.1 7)), .int (zI (u.1 8)), .ref oa, .ref ba])), (oa, .inl (yZ, 72, .inl (aw_f (u.2.2.1)))), (ba, .inl (yI, 72, .inl (u.2.2.2.2))), aw_Dr yI da (u.1), aw_Mr yI pa (u.2.1)]) ⟨hx, hb, hml, hown, hts⟩ (k_armature (x := y) hy0) (va_cwS 4 hts gL_changes_L_armature rfl rfl rfl (by decide +kernel) ⟨Nat.le_of_ble_eq_true rfl, Nat.le_of_ble_eq_true rfl⟩) hP hD hK hS hA [0, 1, 2, 3, 4] [] rfl rfl (by decide) (by decide) (by decide) [0, 1, 2, 3, 4] (by decide) (fun _ => rfl) rfl hl.1 rfl (Nat.le_of_ble_eq_true rfl) dL_changes_16 ⟨Nat.zero_le _, Nat.zero_le _⟩ (fun u H locs hu hP hD hS => ?_)
    obtain ⟨dv2, pf2, ob2, ⟨ty2, px2, pr2⟩, g2⟩ := u
    have hP : va_P D vwCl [(o, .inr (0, [.int (zI (dv2 0)), .int (zI (dv2 1)), .int (zI (dv2 2)), .int (zI (dv2 3)), .int ty2, .int px2, .int pr2, .int (zI (dv2 7)), .int (zI (dv2 8)), .ref oa, .ref ba])), (oa, .inl (yZ, 72, .inl (aw_f ob2))), (ba, .inl (yI, 72, .inl g2)), aw_Dr yI da dv2, aw_Mr yI pa pf2] H := hP
    have hD : va_D _ [(o, .inr (0, [.int (zI (dv2 0)), .int (zI (dv2 1)), .int (zI (dv2 2)), .int (zI (dv2 3)), .int ty2, .int px2, .int pr2, .int (zI (dv2 7)), .int (zI (dv2 8)), .ref oa, .ref ba])), (oa, .inl (yZ, 72, .inl (aw_f ob2))), (ba, .inl (yI, 72, .inl g2)), aw_Dr yI da dv2, aw_Mr yI pa pf2] := hD
    refine W.eq (g2 := F0 m 19 ls [.int (zI 1)]) rfl ?_
    exact aw_zretM (z := 1) (post := aw_p5) (ws' := fun u => aw_w5 yZ yI o oa ba da pa u) ((dv2, pf2, ob2, (ty2, px2, pr2), g2) : aw_S5) hx hb hr hlocks dL_changes_19 (by omega) (by first | rfl | omega) hu hP hK hD hS
end
