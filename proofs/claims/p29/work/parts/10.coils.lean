section
variable {l : Launch} {D : va_G} {yZ yI : ClassId} {o oa ba da pa : Nat} {P S K N w ch : Int} {ty px pr : Int32} {ob : Int → Bool} {g pf : Nat → Int32} {dv : Nat → Int}
set_option maxHeartbeats 4000000 in
set_option maxRecDepth 100000 in
/-- the law's coils: true -/
theorem k_coils (hI : aw_In (dv 0) (dv 1) (dv 2) (dv 3) (dv 7) (dv 8)) (hO : aw_OB pf ob) : aw_RO l yL_coils wsL_coils (aw_rm 3 66) D (aw_T yZ yI) (aw_W5 yZ yI o oa ba da pa dv pf ty px pr ob g) [.ref o, .ref da, .ref pa] (1) := by
  refine Met.ofW (cc := cL_coils) (maxL := 6) (ret := (some .boolean)) (by decide) rfl ?_
  intro p e s m args below meth c s₁ B hml hv
  obtain ⟨rfl, hP, hK⟩ := hv
  have hx := B.exec
  have hb := B.bytes
  have hr := B.returns
  have hts := atoms_spec (ws := wsL_coils) B.pre
  have hown : s.vm.findClass RL = some m.cls := findClass_of_methodNamed B.named
  have hlocks := B.notSynchronized
  have hl := lv_entry ([.ref o, .ref da, .ref pa]) (n := 6) (Nat.le_of_ble_eq_true rfl)
  rw [lg_entry_eq]
  generalize (lg_sl ([.ref o, .ref da, .ref pa]) ++ List.replicate (6 - (lg_sl ([.ref o, .ref da, .ref pa])).length) Slot.unset).toArray = ls at hl ⊢
  have hl : lv_has ls 6 [(0, .ref o), (1, .ref da), (2, .ref pa)] := hl
  obtain ⟨i1, i2, i3, i4, i5, i6, i7, i8, i9, i10, i11, i12, i13⟩ := id hI
  have hP3 : va_P D vwCl (aw_W3 yZ yI o oa ba (dv 0) (dv 1) (dv 2) (dv 3) ty px pr (dv 7) (dv 8) ob g) s.heap := hP.sub [0, 1, 2] rfl
  have hPd : va_P D vwCl [aw_Dr yI da dv] s.heap := hP.sub [3] rfl
  have hPm : va_P D vwCl [aw_Mr yI pa pf] s.heap := hP.sub [4] rfl
  have hN : 0 < dv 3 := by omega
  have hs := aw_sp_in (P := dv 0) (S := dv 1) (ch := dv 8) (by omega) (by omega) (by omega)
  refine zb_iconst hx hb dL_coils_0 ?_
  refine lv_istore_n (lv' := [(3, .int (zI 0)), (0, .ref o), (1, .ref da), (2, .ref pa)]) hx hb dL_coils_1 rfl hl (by decide) rfl (fun ls hl => ?_)
  refine zb_lp1 (nL := 6) (fun z => 0 ≤ z ∧ z ≤ dv 3) (fun z => [(3, .int (zI z)), (2, .ref pa), (1, .ref da), (0, .ref o)]) (fun z => dv 3 - z) 0 ⟨by omega, by omega⟩ (lv_sub hl [0, 3, 2, 1] rfl) ?_
  intro z ls hJ2 hl ih2
  have hJ2 : 0 ≤ z ∧ z ≤ dv 3 := hJ2
  have hl : lv_has ls 6 [(3, .int (zI z)), (2, .ref pa), (1, .ref da), (0, .ref o)] := hl
  refine lv_iload_n hx hb dL_coils_2 rfl (lv_at hl 0 rfl) ?_
  refine lv_aload_n hx hb dL_coils_3 rfl (lv_at hl 2 rfl) ?_
  refine zb_iconst hx hb dL_coils_4 ?_
  refine aw_dld hx hb hK hP 3 1 rfl rfl 3 (by decide) dL_coils_5 ?_
  refine zb_cge (tgt := 77) hx hb dL_coils_6 (by decide) (by omega) (by omega) (fun c6 => ?_) (fun c6 => ?_)
  · skip
    refine zb_iconst hx hb dL_coils_77 ?_
    refine lv_istore_n (lv' := [(3, .int (zI 0)), (2, .ref pa), (1, .ref da), (0, .ref o)]) hx hb dL_coils_78 rfl hl (by decide) rfl (fun ls hl => ?_)
    refine zb_lp1 (nL := 6) (fun a => 0 ≤ a ∧ a ≤ dv 1) (fun a => [(3, .int (zI a)), (2, .ref pa), (1, .ref da), (0, .ref o)]) (fun a => dv 1 - a) 0 ⟨by omega, by omega⟩ (lv_sub hl [0, 1, 2, 3] rfl) ?_
    intro a ls hJ79 hl ih79
    have hJ79 : 0 ≤ a ∧ a ≤ dv 1 := hJ79
    have hl : lv_has ls 6 [(3, .int (zI a)), (2, .ref pa), (1, .ref da), (0, .ref o)] := hl
    refine lv_iload_n hx hb dL_coils_79 rfl (lv_at hl 0 rfl) ?_
    refine lv_aload_n hx hb dL_coils_80 rfl (lv_at hl 2 rfl) ?_
    refine zb_iconst hx hb dL_coils_81 ?_
    refine aw_dld hx hb hK hP 3 1 rfl rfl 1 (by decide) dL_coils_82 ?_
    refine zb_cge (tgt := 163) hx hb dL_coils_83 (by decide) (by omega) (by omega) (fun c83 => ?_) (fun c83 => ?_)
    · skip
      refine lv_aload_n hx hb dL_coils_163 rfl (lv_at hl 3 rfl) ?_
      refine aw_callV (As := []) (rest := []) ⟨hx, hb, hml, hown, hts⟩ (k_coilCount) (cwV 0 hts gL_coils_X0_coilCount rfl rfl rfl (by decide +kernel) ⟨Nat.le_of_ble_eq_true rfl, Nat.le_of_ble_eq_true rfl⟩) hP3 hK rfl rfl rfl hl.1 rfl (Nat.le_of_ble_eq_true rfl) dL_coils_164 ⟨Nat.zero_le _, Nat.zero_le _⟩ ?_
      refine lv_aload_n hx hb dL_coils_167 rfl (lv_at hl 2 rfl) ?_
      refine zb_iconst hx hb dL_coils_168 ?_
      refine aw_dld hx hb hK hP 3 1 rfl rfl 3 (by decide) dL_coils_169 ?_
      refine zb_cne (tgt := 249) hx hb dL_coils_170 (by decide) (by omega) (by omega) (fun c170 => absurd c170 (by omega)) (fun c170 => ?_)
      refine lv_aload_n hx hb dL_coils_173 rfl (lv_at hl 3 rfl) ?_
      refine aw_callV (As := []) (rest := []) ⟨hx, hb, hml, hown, hts⟩ (k_slotPitch hI) (cwV 0 hts gL_coils_X0_slotPitch rfl rfl rfl (by decide +kernel) ⟨Nat.le_of_ble_eq_true rfl, Nat.le_of_ble_eq_true rfl⟩) hP3 hK rfl rfl rfl hl.1 rfl (Nat.le_of_ble_eq_true rfl) dL_coils_174 ⟨Nat.zero_le _, Nat.zero_le _⟩ ?_
      refine lv_aload_n hx hb dL_coils_177 rfl (lv_at hl 2 rfl) ?_
      refine aw_callS (As := [.ref da]) (rest := [.int (zI (aw_sp (dv 0) (dv 1) (dv 8)))]) ⟨hx, hb, hml, hown, hts⟩ (k_lslotPitch hI) (va_cwS 1 hts gL_coils_L_slotPitch rfl rfl rfl (by decide +kernel) ⟨Nat.le_of_ble_eq_true rfl, Nat.le_of_ble_eq_true rfl⟩) hPd hK rfl hl.1 rfl (Nat.le_of_ble_eq_true rfl) dL_coils_178 ⟨Nat.zero_le _, Nat.zero_le _⟩ ?_
      refine zb_cne (tgt := 249) hx hb dL_coils_181 (by decide) (by omega) (by omega) (fun c181 => absurd c181 (by omega)) (fun c181 => ?_)
      refine lv_aload_n hx hb dL_coils_184 rfl (lv_at hl 3 rfl) ?_
      refine zb_iconst hx hb dL_coils_185 ?_
      refine aw_callV (As := [.int (zI ((-1)))]) (rest := []) ⟨hx, hb, hml, hown, hts⟩ (k_endBar_no (z := -1) hI ⟨by omega, by omega⟩ (by omega)) (cwV 1 hts gL_coils_X0_endBar rfl rfl rfl (by decide +kernel) ⟨Nat.le_of_ble_eq_true rfl, Nat.le_of_ble_eq_true rfl⟩) hP3 hK rfl rfl rfl hl.1 rfl (Nat.le_of_ble_eq_true rfl) dL_coils_186 ⟨Nat.zero_le _, Nat.zero_le _⟩ ?_
      refine zb_sipush hx hb dL_coils_189 (by decide) ?_
      refine zb_cne (tgt := 249) hx hb dL_coils_192 (by decide) (by omega) (by omega) (fun c192 => absurd c192 (by omega)) (fun c192 => ?_)
      refine lv_aload_n hx hb dL_coils_195 rfl (lv_at hl 3 rfl) ?_
      refine lv_aload_n hx hb dL_coils_196 rfl (lv_at hl 2 rfl) ?_
      refine zb_iconst hx hb dL_coils_197 ?_
      refine aw_dld hx hb hK hP 3 1 rfl rfl 3 (by decide) dL_coils_198 ?_
      refine aw_callV (As := [.int (zI (dv 3))]) (rest := []) ⟨hx, hb, hml, hown, hts⟩ (k_coilEndingAt_no (z := dv 3) hI ⟨by omega, by omega⟩ (by omega)) (cwV 1 hts gL_coils_X0_coilEndingAt rfl rfl rfl (by decide +kernel) ⟨Nat.le_of_ble_eq_true rfl, Nat.le_of_ble_eq_true rfl⟩) hP3 hK rfl rfl rfl hl.1 rfl (Nat.le_of_ble_eq_true rfl) dL_coils_199 ⟨Nat.zero_le _, Nat.zero_le _⟩ ?_
      refine zb_sipush hx hb dL_coils_202 (by decide) ?_
      refine zb_cne (tgt := 249) hx hb dL_coils_205 (by decide) (by omega) (by omega) (fun c205 => absurd c205 (by omega)) (fun c205 => ?_)
      refine lv_aload_n hx hb dL_coils_208 rfl (lv_at hl 3 rfl) ?_
      refine lv_aload_n hx hb dL_coils_209 rfl (lv_at hl 2 rfl) ?_
      refine zb_iconst hx hb dL_coils_210 ?_
      refine aw_dld hx hb hK hP 3 1 rfl rfl 3 (by decide) dL_coils_211 ?_
      refine aw_callV (As := [.int (zI (dv 3))]) (rest := []) ⟨hx, hb, hml, hown, hts⟩ (k_upperSlot_no (z := dv 3) hI ⟨by omega, by omega⟩ (by omega)) (cwV 1 hts gL_coils_X0_upperSlot rfl rfl rfl (by decide +kernel) ⟨Nat.le_of_ble_eq_true rfl, Nat.le_of_ble_eq_true rfl⟩) hP3 hK rfl rfl rfl hl.1 rfl (Nat.le_of_ble_eq_true rfl) dL_coils_212 ⟨Nat.zero_le _, Nat.zero_le _⟩ ?_
      refine zb_sipush hx hb dL_coils_215 (by decide) ?_
      refine zb_cne (tgt := 249) hx hb dL_coils_218 (by decide) (by omega) (by omega) (fun c218 => absurd c218 (by omega)) (fun c218 => ?_)
      refine lv_aload_n hx hb dL_coils_221 rfl (lv_at hl 3 rfl) ?_
      refine zb_iconst hx hb dL_coils_222 ?_
      refine aw_callV (As := [.int (zI ((-1)))]) (rest := []) ⟨hx, hb, hml, hown, hts⟩ (k_lowerSlot_no (z := -1) hI ⟨by omega, by omega⟩ (by omega)) (cwV 1 hts gL_coils_X0_lowerSlot rfl rfl rfl (by decide +kernel) ⟨Nat.le_of_ble_eq_true rfl, Nat.le_of_ble_eq_true rfl⟩) hP3 hK rfl rfl rfl hl.1 rfl (Nat.le_of_ble_eq_true rfl) dL_coils_223 ⟨Nat.zero_le _, Nat.zero_le _⟩ ?_
      refine zb_sipush hx hb dL_coils_226 (by decide) ?_
      refine zb_cne (tgt := 249) hx hb dL_coils_229 (by decide) (by omega) (by omega) (fun c229 => absurd c229 (by omega)) (fun c229 => ?_)
      refine lv_aload_n hx hb dL_coils_232 rfl (lv_at hl 3 rfl) ?_
      refine lv_aload_n hx hb dL_coils_233 rfl (lv_at hl 2 rfl) ?_
      refine zb_iconst hx hb dL_coils_234 ?_
      refine aw_dld hx hb hK hP 3 1 rfl rfl 1 (by decide) dL_coils_235 ?_
      refine aw_callV (As := [.int (zI (dv 1))]) (rest := []) ⟨hx, hb, hml, hown, hts⟩ (k_openCoilsIn_no (a := dv 1) hI ⟨by omega, by omega⟩ (by omega)) (cwV 1 hts gL_coils_X0_openCoilsIn rfl rfl rfl (by decide +kernel) ⟨Nat.le_of_ble_eq_true rfl, Nat.le_of_ble_eq_true rfl⟩) hP3 hK rfl rfl rfl hl.1 rfl (Nat.le_of_ble_eq_true rfl) dL_coils_236 ⟨Nat.zero_le _, Nat.zero_le _⟩ ?_
      refine zb_sipush hx hb dL_coils_239 (by decide) ?_
      refine zb_cne (tgt := 249) hx hb dL_coils_242 (by decide) (by omega) (by omega) (fun c242 => absurd c242 (by omega)) (fun c242 => ?_)
      refine zb_iconst hx hb dL_coils_245 ?_
      refine lv_goto (tgt := 250) hx hb dL_coils_246 (by decide) ?_
      exact aw_zret hx hb hr hlocks dL_coils_250 (by omega) rfl
    · skip
      refine zb_iconst hx hb dL_coils_86 ?_
      refine lv_istore (lv' := [(4, .int (zI 0)), (3, .int (zI a)), (2, .ref pa), (1, .ref da), (0, .ref o)]) hx hb dL_coils_87 hl (by decide) rfl (fun ls hl => ?_)
      refine zb_iconst hx hb dL_coils_89 ?_
      refine lv_istore (lv' := [(5, .int (zI 0)), (4, .int (zI 0)), (3, .int (zI a)), (2, .ref pa), (1, .ref da), (0, .ref o)]) hx hb dL_coils_90 hl (by decide) rfl (fun ls hl => ?_)
      refine zb_lp2 (nL := 6) (fun n z => 0 ≤ z ∧ z ≤ dv 3 ∧ n = aw_cn (aw_oc (dv 0) (dv 1) (dv 2) (dv 8) ob a) z) (fun n z => [(5, .int (zI z)), (4, .int (zI n)), (3, .int (zI a)), (2, .ref pa), (1, .ref da), (0, .ref o)]) (fun n z => dv 3 - z) 0 0 ⟨by omega, by omega, (aw_cn_0 _).symm⟩ (lv_sub hl [0, 1, 2, 3, 4, 5] rfl) ?_
      intro n z ls hJ92 hl ih92
      have hJ92 : 0 ≤ z ∧ z ≤ dv 3 ∧ n = aw_cn (aw_oc (dv 0) (dv 1) (dv 2) (dv 8) ob a) z := hJ92
      have hl : lv_has ls 6 [(5, .int (zI z)), (4, .int (zI n)), (3, .int (zI a)), (2, .ref pa), (1, .ref da), (0, .ref o)] := hl
      have hb1 := aw_b_01 (ob z)
      refine lv_iload hx hb dL_coils_92 (lv_at hl 0 rfl) ?_
      refine lv_aload_n hx hb dL_coils_94 rfl (lv_at hl 4 rfl) ?_
      refine zb_iconst hx hb dL_coils_95 ?_
      refine aw_dld hx hb hK hP 3 1 rfl rfl 3 (by decide) dL_coils_96 ?_
      refine zb_cge (tgt := 145) hx hb dL_coils_97 (by decide) (by omega) (by omega) (fun c97 => ?_) (fun c97 => ?_)
      · skip
        refine lv_aload_n hx hb dL_coils_145 rfl (lv_at hl 5 rfl) ?_
        refine lv_iload_n hx hb dL_coils_146 rfl (lv_at hl 2 rfl) ?_
        refine aw_callV (As := [.int (zI a)]) (rest := []) ⟨hx, hb, hml, hown, hts⟩ (k_openCoilsIn (a := a) hI ⟨by omega, by omega⟩) (cwV 1 hts gL_coils_X0_openCoilsIn rfl rfl rfl (by decide +kernel) ⟨Nat.le_of_ble_eq_true rfl, Nat.le_of_ble_eq_true rfl⟩) hP3 hK rfl rfl rfl hl.1 rfl (Nat.le_of_ble_eq_true rfl) dL_coils_147 ⟨Nat.zero_le _, Nat.zero_le _⟩ ?_
        refine lv_iload hx hb dL_coils_150 (lv_at hl 1 rfl) ?_
        refine zb_ceq (tgt := 157) hx hb dL_coils_152 (by decide) (by have := aw_cn_le (aw_oc (dv 0) (dv 1) (dv 2) (dv 8) ob a) (z := dv 3) (by omega); omega) (by have := aw_cn_le (aw_oc (dv 0) (dv 1) (dv 2) (dv 8) ob a) (z := z) (by omega); omega) (fun c152 => ?_) (fun c152 => absurd c152 (fun hh => hh (by rw [hJ92.2.2, show z = dv 3 from by omega])))
        refine zb_iinc (lv' := [(3, .int (zI (a + 1))), (5, .int (zI z)), (4, .int (zI n)), (2, .ref pa), (1, .ref da), (0, .ref o)]) hx hb dL_coils_157 hl (k := 2) rfl (by decide) rfl (fun ls hl => ?_)
        refine lv_goto (tgt := 79) hx hb dL_coils_160 (by decide) ?_
        exact ih79 (a + 1) ls ⟨by omega, by omega⟩ (by omega) (lv_sub hl [0, 3, 4, 5] rfl)
      · skip
        have hz : 0 ≤ z ∧ z < dv 3 := ⟨by omega, by omega⟩
        have hq := aw_div (x := z) (n := dv 2) (by omega) (by omega)
        have hqs := aw_divlt (z := z) i7 (by omega) (by omega)
        have hlo : 0 ≤ aw_lo (dv 0) (dv 1) (dv 2) (dv 8) z ∧ aw_lo (dv 0) (dv 1) (dv 2) (dv 8) z < dv 1 := aw_mod (by omega)
        refine lv_iload hx hb dL_coils_100 (lv_at hl 1 rfl) ?_
        refine lv_aload_n hx hb dL_coils_102 rfl (lv_at hl 3 rfl) ?_
        refine lv_iload hx hb dL_coils_103 (lv_at hl 0 rfl) ?_
        refine aw_callS (As := [.ref pa, .int (zI z)]) (rest := [.int (zI n)]) ⟨hx, hb, hml, hown, hts⟩ (k_lisOpen (z := z) hO ⟨by omega, by omega⟩) (va_cwS 2 hts gL_coils_L_isOpen rfl rfl rfl (by decide +kernel) ⟨Nat.le_of_ble_eq_true rfl, Nat.le_of_ble_eq_true rfl⟩) hPm hK rfl hl.1 rfl (Nat.le_of_ble_eq_true rfl) dL_coils_105 ⟨Nat.zero_le _, Nat.zero_le _⟩ ?_
        refine zb_ieq (tgt := 135) hx hb dL_coils_108 (by decide) (by omega) (fun c108 => ?_) (fun c108 => ?_)
        · skip
          refine zb_iconst hx hb dL_coils_135 ?_
          refine zb_add hx hb dL_coils_136 ?_
          refine lv_istore (lv' := [(4, .int (zI (n + 0))), (5, .int (zI z)), (3, .int (zI a)), (2, .ref pa), (1, .ref da), (0, .ref o)]) hx hb dL_coils_137 hl (by decide) rfl (fun ls hl => ?_)
          refine zb_iinc (lv' := [(5, .int (zI (z + 1))), (4, .int (zI (n + 0))), (3, .int (zI a)), (2, .ref pa), (1, .ref da), (0, .ref o)]) hx hb dL_coils_139 hl (k := 1) rfl (by decide) rfl (fun ls hl => ?_)
          refine lv_goto (tgt := 92) hx hb dL_coils_142 (by decide) ?_
          exact ih92 (n + 0) (z + 1) ls ⟨by omega, by omega, by rw [aw_cn_s _ hJ92.1, aw_b_f (by unfold aw_oc; rw [aw_b_eq0.mp c108]; rfl), hJ92.2.2]⟩ (by omega) (lv_sub hl [0, 1, 2, 3, 4, 5] rfl)
        · skip
          refine lv_iload hx hb dL_coils_111 (lv_at hl 0 rfl) ?_
          refine lv_aload_n hx hb dL_coils_113 rfl (lv_at hl 4 rfl) ?_
          refine zb_iconst hx hb dL_coils_114 ?_
          refine aw_dld hx hb hK hP 3 1 rfl rfl 2 (by decide) dL_coils_115 ?_
          refine zb_div hx hb dL_coils_116 (by omega) (by omega) ?_
          refine lv_iload_n hx hb dL_coils_117 rfl (lv_at hl 2 rfl) ?_
          refine zb_ceq (tgt := 131) hx hb dL_coils_118 (by decide) (by omega) (by omega) (fun c118 => ?_) (fun c118 => ?_)
          · skip
            refine zb_iconst hx hb dL_coils_131 ?_
            refine lv_goto (tgt := 136) hx hb dL_coils_132 (by decide) ?_
            refine zb_add hx hb dL_coils_136 ?_
            refine lv_istore (lv' := [(4, .int (zI (n + 1))), (5, .int (zI z)), (3, .int (zI a)), (2, .ref pa), (1, .ref da), (0, .ref o)]) hx hb dL_coils_137 hl (by decide) rfl (fun ls hl => ?_)
            refine zb_iinc (lv' := [(5, .int (zI (z + 1))), (4, .int (zI (n + 1))), (3, .int (zI a)), (2, .ref pa), (1, .ref da), (0, .ref o)]) hx hb dL_coils_139 hl (k := 1) rfl (by decide) rfl (fun ls hl => ?_)
            refine lv_goto (tgt := 92) hx hb dL_coils_142 (by decide) ?_
            exact ih92 (n + 1) (z + 1) ls ⟨by omega, by omega, by rw [aw_cn_s _ hJ92.1, aw_b_t (by unfold aw_oc; rw [aw_b_ne0.mp c108, c118]; simp), hJ92.2.2]⟩ (by omega) (lv_sub hl [0, 1, 2, 3, 4, 5] rfl)
          · skip
            refine lv_aload_n hx hb dL_coils_121 rfl (lv_at hl 4 rfl) ?_
            refine lv_iload hx hb dL_coils_122 (lv_at hl 0 rfl) ?_
            refine aw_callS (As := [.ref da, .int (zI z)]) (rest := [.int (zI n)]) ⟨hx, hb, hml, hown, hts⟩ (k_llower (z := z) hI ⟨by omega, by omega⟩) (va_cwS 2 hts gL_coils_L_lower rfl rfl rfl (by decide +kernel) ⟨Nat.le_of_ble_eq_true rfl, Nat.le_of_ble_eq_true rfl⟩) hPd hK rfl hl.1 rfl (Nat.le_of_ble_eq_true rfl) dL_coils_124 ⟨Nat.zero_le _, Nat.zero_le _⟩ ?_
            refine lv_iload_n hx hb dL_coils_127 rfl (lv_at hl 2 rfl) ?_
            refine zb_cne (tgt := 135) hx hb dL_coils_128 (by decide) (by omega) (by omega) (fun c128 => ?_) (fun c128 => ?_)
            · skip
              refine zb_iconst hx hb dL_coils_135 ?_
              refine zb_add hx hb dL_coils_136 ?_
              refine lv_istore (lv' := [(4, .int (zI (n + 0))), (5, .int (zI z)), (3, .int (zI a)), (2, .ref pa), (1, .ref da), (0, .ref o)]) hx hb dL_coils_137 hl (by decide) rfl (fun ls hl => ?_)
              refine zb_iinc (lv' := [(5, .int (zI (z + 1))), (4, .int (zI (n + 0))), (3, .int (zI a)), (2, .ref pa), (1, .ref da), (0, .ref o)]) hx hb dL_coils_139 hl (k := 1) rfl (by decide) rfl (fun ls hl => ?_)
              refine lv_goto (tgt := 92) hx hb dL_coils_142 (by decide) ?_
              exact ih92 (n + 0) (z + 1) ls ⟨by omega, by omega, by rw [aw_cn_s _ hJ92.1, aw_b_f (by unfold aw_oc; simp [c118, c128]), hJ92.2.2]⟩ (by omega) (lv_sub hl [0, 1, 2, 3, 4, 5] rfl)
            · skip
              refine zb_iconst hx hb dL_coils_131 ?_
              refine lv_goto (tgt := 136) hx hb dL_coils_132 (by decide) ?_
              refine zb_add hx hb dL_coils_136 ?_
              refine lv_istore (lv' := [(4, .int (zI (n + 1))), (5, .int (zI z)), (3, .int (zI a)), (2, .ref pa), (1, .ref da), (0, .ref o)]) hx hb dL_coils_137 hl (by decide) rfl (fun ls hl => ?_)
              refine zb_iinc (lv' := [(5, .int (zI (z + 1))), (4, .int (zI (n + 1))), (3, .int (zI a)), (2, .ref pa), (1, .ref da), (0, .ref o)]) hx hb dL_coils_139 hl (k := 1) rfl (by decide) rfl (fun ls hl => ?_)
              refine lv_goto (tgt := 92) hx hb dL_coils_142 (by decide) ?_
              exact ih92 (n + 1) (z + 1) ls ⟨by omega, by omega, by rw [aw_cn_s _ hJ92.1, aw_b_t (by unfold aw_oc; rw [aw_b_ne0.mp c108, c128]; simp), hJ92.2.2]⟩ (by omega) (lv_sub hl [0, 1, 2, 3, 4, 5] rfl)
  · skip
    have hz : 0 ≤ z ∧ z < dv 3 := ⟨by omega, by omega⟩
    have hq := aw_div (x := z) (n := dv 2) (by omega) (by omega)
    have hqs := aw_divlt (z := z) i7 (by omega) (by omega)
    have hlo : 0 ≤ aw_lo (dv 0) (dv 1) (dv 2) (dv 8) z ∧ aw_lo (dv 0) (dv 1) (dv 2) (dv 8) z < dv 1 := aw_mod (by omega)
    have hen := aw_mod (x := z + dv 7) hN
    have hback := aw_mod (x := (z + dv 7) % dv 3 - dv 7) hN
    refine lv_aload_n hx hb dL_coils_9 rfl (lv_at hl 3 rfl) ?_
    refine lv_iload_n hx hb dL_coils_10 rfl (lv_at hl 0 rfl) ?_
    refine aw_callV (As := [.int (zI z)]) (rest := []) ⟨hx, hb, hml, hown, hts⟩ (k_endBar (z := z) hI hz) (cwV 1 hts gL_coils_X0_endBar rfl rfl rfl (by decide +kernel) ⟨Nat.le_of_ble_eq_true rfl, Nat.le_of_ble_eq_true rfl⟩) hP3 hK rfl rfl rfl hl.1 rfl (Nat.le_of_ble_eq_true rfl) dL_coils_11 ⟨Nat.zero_le _, Nat.zero_le _⟩ ?_
    refine lv_istore (lv' := [(4, .int (zI ((z + dv 7) % dv 3))), (3, .int (zI z)), (2, .ref pa), (1, .ref da), (0, .ref o)]) hx hb dL_coils_14 hl (by decide) rfl (fun ls hl => ?_)
    refine lv_iload hx hb dL_coils_16 (lv_at hl 0 rfl) ?_
    refine lv_iload_n hx hb dL_coils_18 rfl (lv_at hl 1 rfl) ?_
    refine lv_aload_n hx hb dL_coils_19 rfl (lv_at hl 3 rfl) ?_
    refine zb_bipush hx hb dL_coils_20 (by decide) ?_
    refine aw_dld hx hb hK hP 3 1 rfl rfl 7 (by decide) dL_coils_22 ?_
    refine zb_add hx hb dL_coils_23 ?_
    refine lv_aload_n hx hb dL_coils_24 rfl (lv_at hl 3 rfl) ?_
    refine zb_iconst hx hb dL_coils_25 ?_
    refine aw_dld hx hb hK hP 3 1 rfl rfl 3 (by decide) dL_coils_26 ?_
    refine aw_callS (As := [.int (zI (z + (dv 7))), .int (zI (dv 3))]) (rest := [.int (zI ((z + dv 7) % dv 3))]) ⟨hx, hb, hml, hown, hts⟩ (k_mod (x := z + dv 7) (n := dv 3) ⟨by omega, by omega⟩ ⟨by omega, by omega⟩) (va_cwS 2 hts gL_coils_L_mod rfl rfl rfl (by decide +kernel) ⟨Nat.le_of_ble_eq_true rfl, Nat.le_of_ble_eq_true rfl⟩) (hP.sub (ws' := []) [] rfl) (hK.sub (tys' := []) [] rfl) rfl hl.1 rfl (Nat.le_of_ble_eq_true rfl) dL_coils_27 ⟨Nat.zero_le _, Nat.zero_le _⟩ ?_
    refine zb_cne (tgt := 69) hx hb dL_coils_30 (by decide) (by omega) (by omega) (fun c30 => absurd c30 (by omega)) (fun c30 => ?_)
    refine lv_aload_n hx hb dL_coils_33 rfl (lv_at hl 4 rfl) ?_
    refine lv_iload hx hb dL_coils_34 (lv_at hl 0 rfl) ?_
    refine aw_callV (As := [.int (zI ((z + dv 7) % dv 3))]) (rest := []) ⟨hx, hb, hml, hown, hts⟩ (k_coilEndingAt (z := (z + dv 7) % dv 3) hI hen) (cwV 1 hts gL_coils_X0_coilEndingAt rfl rfl rfl (by decide +kernel) ⟨Nat.le_of_ble_eq_true rfl, Nat.le_of_ble_eq_true rfl⟩) hP3 hK rfl rfl rfl hl.1 rfl (Nat.le_of_ble_eq_true rfl) dL_coils_36 ⟨Nat.zero_le _, Nat.zero_le _⟩ ?_
    refine lv_iload_n hx hb dL_coils_39 rfl (lv_at hl 1 rfl) ?_
    refine zb_cne (tgt := 69) hx hb dL_coils_40 (by decide) (by omega) (by omega) (fun c40 => absurd c40 (fun hh => hh (aw_endback hz))) (fun c40 => ?_)
    refine lv_aload_n hx hb dL_coils_43 rfl (lv_at hl 4 rfl) ?_
    refine lv_iload_n hx hb dL_coils_44 rfl (lv_at hl 1 rfl) ?_
    refine aw_callV (As := [.int (zI z)]) (rest := []) ⟨hx, hb, hml, hown, hts⟩ (k_upperSlot (z := z) hI hz) (cwV 1 hts gL_coils_X0_upperSlot rfl rfl rfl (by decide +kernel) ⟨Nat.le_of_ble_eq_true rfl, Nat.le_of_ble_eq_true rfl⟩) hP3 hK rfl rfl rfl hl.1 rfl (Nat.le_of_ble_eq_true rfl) dL_coils_45 ⟨Nat.zero_le _, Nat.zero_le _⟩ ?_
    refine lv_iload_n hx hb dL_coils_48 rfl (lv_at hl 1 rfl) ?_
    refine lv_aload_n hx hb dL_coils_49 rfl (lv_at hl 3 rfl) ?_
    refine zb_iconst hx hb dL_coils_50 ?_
    refine aw_dld hx hb hK hP 3 1 rfl rfl 2 (by decide) dL_coils_51 ?_
    refine zb_div hx hb dL_coils_52 (by omega) (by omega) ?_
    refine zb_cne (tgt := 69) hx hb dL_coils_53 (by decide) (by omega) (by omega) (fun c53 => absurd c53 (by omega)) (fun c53 => ?_)
    refine lv_aload_n hx hb dL_coils_56 rfl (lv_at hl 4 rfl) ?_
    refine lv_iload_n hx hb dL_coils_57 rfl (lv_at hl 1 rfl) ?_
    refine aw_callV (As := [.int (zI z)]) (rest := []) ⟨hx, hb, hml, hown, hts⟩ (k_lowerSlot (z := z) hI hz) (cwV 1 hts gL_coils_X0_lowerSlot rfl rfl rfl (by decide +kernel) ⟨Nat.le_of_ble_eq_true rfl, Nat.le_of_ble_eq_true rfl⟩) hP3 hK rfl rfl rfl hl.1 rfl (Nat.le_of_ble_eq_true rfl) dL_coils_58 ⟨Nat.zero_le _, Nat.zero_le _⟩ ?_
    refine lv_aload_n hx hb dL_coils_61 rfl (lv_at hl 3 rfl) ?_
    refine lv_iload_n hx hb dL_coils_62 rfl (lv_at hl 1 rfl) ?_
    refine aw_callS (As := [.ref da, .int (zI z)]) (rest := [.int (zI (aw_lo (dv 0) (dv 1) (dv 2) (dv 8) z))]) ⟨hx, hb, hml, hown, hts⟩ (k_llower (z := z) hI hz) (va_cwS 2 hts gL_coils_L_lower rfl rfl rfl (by decide +kernel) ⟨Nat.le_of_ble_eq_true rfl, Nat.le_of_ble_eq_true rfl⟩) hPd hK rfl hl.1 rfl (Nat.le_of_ble_eq_true rfl) dL_coils_63 ⟨Nat.zero_le _, Nat.zero_le _⟩ ?_
    refine zb_ceq (tgt := 71) hx hb dL_coils_66 (by decide) (by omega) (by omega) (fun c66 => ?_) (fun c66 => absurd c66 (by omega))
    refine zb_iinc (lv' := [(3, .int (zI (z + 1))), (4, .int (zI ((z + dv 7) % dv 3))), (2, .ref pa), (1, .ref da), (0, .ref o)]) hx hb dL_coils_71 hl (k := 1) rfl (by decide) rfl (fun ls hl => ?_)
    refine lv_goto (tgt := 2) hx hb dL_coils_74 (by decide) ?_
    exact ih2 (z + 1) ls ⟨by omega, by omega⟩ (by omega) (lv_sub hl [0, 2, 3, 4] rfl)
set_option maxHeartbeats 4000000 in
set_option maxRecDepth 100000 in
/-- the law's sums: true -/
theorem k_sums (hI : aw_In (dv 0) (dv 1) (dv 2) (dv 3) (dv 7) (dv 8)) {t : Int} (ht : 0 ≤ t ∧ t < 70) : aw_RO l yL_sums wsL_sums (aw_rm 3 67) D (aw_T yZ yI) (aw_W5 yZ yI o oa ba da pa dv pf ty px pr ob g) [.ref o, .int (zI t), .ref da] (1) := by
  refine Met.ofW (cc := cL_sums) (maxL := 6) (ret := (some .boolean)) (by decide) rfl ?_
  intro p e s m args below meth c s₁ B hml hv
  obtain ⟨rfl, hP, hK⟩ := hv
  have hx := B.exec
  have hb := B.bytes
  have hr := B.returns
  have hts := atoms_spec (ws := wsL_sums) B.pre
  have hown : s.vm.findClass RL = some m.cls := findClass_of_methodNamed B.named
  have hlocks := B.notSynchronized
  have hl := lv_entry ([.ref o, .int (zI t), .ref da]) (n := 6) (Nat.le_of_ble_eq_true rfl)
  rw [lg_entry_eq]
  generalize (lg_sl ([.ref o, .int (zI t), .ref da]) ++ List.replicate (6 - (lg_sl ([.ref o, .int (zI t), .ref da])).length) Slot.unset).toArray = ls at hl ⊢
  have hl : lv_has ls 6 [(0, .ref o), (1, .int (zI t)), (2, .ref da)] := hl
  obtain ⟨i1, i2, i3, i4, i5, i6, i7, i8, i9, i10, i11, i12, i13⟩ := id hI
  have hP3 : va_P D vwCl (aw_W3 yZ yI o oa ba (dv 0) (dv 1) (dv 2) (dv 3) ty px pr (dv 7) (dv 8) ob g) s.heap := hP.sub [0, 1, 2] rfl
  have hPd : va_P D vwCl [aw_Dr yI da dv] s.heap := hP.sub [3] rfl
  have hN : 0 < dv 3 := by omega
  have h00 := aw_sum0 hI t
  refine zb_iconst hx hb dL_sums_0 ?_
  refine lv_istore_n (lv' := [(3, .int (zI 0)), (0, .ref o), (1, .int (zI t)), (2, .ref da)]) hx hb dL_sums_1 rfl hl (by decide) rfl (fun ls hl => ?_)
  refine zb_iconst hx hb dL_sums_2 ?_
  refine lv_istore (lv' := [(4, .int (zI 0)), (3, .int (zI 0)), (0, .ref o), (1, .int (zI t)), (2, .ref da)]) hx hb dL_sums_3 hl (by decide) rfl (fun ls hl => ?_)
  refine zb_lp2 (nL := 6) (fun n z => 0 ≤ z ∧ z ≤ dv 3 ∧ n = aw_sm (fun z => aw_vt (dv 0) (dv 1) (dv 2) (dv 8) z t) z ∧ -2 * z ≤ n ∧ n ≤ 2 * z) (fun n z => [(4, .int (zI z)), (3, .int (zI n)), (2, .ref da), (1, .int (zI t)), (0, .ref o)]) (fun n z => dv 3 - z) 0 0 ⟨by omega, by omega, (aw_sm_0 _).symm, by omega, by omega⟩ (lv_sub hl [0, 1, 4, 3, 2] rfl) ?_
  intro n z ls hJ5 hl ih5
  have hJ5 : 0 ≤ z ∧ z ≤ dv 3 ∧ n = aw_sm (fun z => aw_vt (dv 0) (dv 1) (dv 2) (dv 8) z t) z ∧ -2 * z ≤ n ∧ n ≤ 2 * z := hJ5
  have hl : lv_has ls 6 [(4, .int (zI z)), (3, .int (zI n)), (2, .ref da), (1, .int (zI t)), (0, .ref o)] := hl
  refine lv_iload hx hb dL_sums_5 (lv_at hl 0 rfl) ?_
  refine lv_aload_n hx hb dL_sums_7 rfl (lv_at hl 2 rfl) ?_
  refine zb_iconst hx hb dL_sums_8 ?_
  refine aw_dld hx hb hK hP 3 1 rfl rfl 3 (by decide) dL_sums_9 ?_
  refine zb_cge (tgt := 63) hx hb dL_sums_10 (by decide) (by omega) (by omega) (fun c10 => ?_) (fun c10 => ?_)
  · skip
    refine lv_iload_n hx hb dL_sums_63 rfl (lv_at hl 1 rfl) ?_
    refine zb_ine (tgt := 111) hx hb dL_sums_64 (by decide) (by omega) (fun c64 => absurd c64 (fun hh => hh (by rw [hJ5.2.2.1, show z = dv 3 from by omega]; exact h00))) (fun c64 => ?_)
    refine lv_aload_n hx hb dL_sums_67 rfl (lv_at hl 4 rfl) ?_
    refine zb_iconst hx hb dL_sums_68 ?_
    refine zb_bipush hx hb dL_sums_69 (by decide) ?_
    refine aw_callV (As := [.int (zI 0), .int (zI 101)]) (rest := []) ⟨hx, hb, hml, hown, hts⟩ (k_coilVoltage_oor (z := 0) (t := 101) hI ⟨by omega, by omega⟩ ⟨by omega, by omega⟩ (by omega)) (cwV 2 hts gL_sums_X0_coilVoltage rfl rfl rfl (by decide +kernel) ⟨Nat.le_of_ble_eq_true rfl, Nat.le_of_ble_eq_true rfl⟩) hP3 hK rfl rfl rfl hl.1 rfl (Nat.le_of_ble_eq_true rfl) dL_sums_71 ⟨Nat.zero_le _, Nat.zero_le _⟩ ?_
    refine zb_sipush hx hb dL_sums_74 (by decide) ?_
    refine zb_cne (tgt := 111) hx hb dL_sums_77 (by decide) (by omega) (by omega) (fun c77 => absurd c77 (by omega)) (fun c77 => ?_)
    refine lv_aload_n hx hb dL_sums_80 rfl (lv_at hl 4 rfl) ?_
    refine zb_iconst hx hb dL_sums_81 ?_
    refine zb_iconst hx hb dL_sums_82 ?_
    refine aw_callV (As := [.int (zI 0), .int (zI ((-1)))]) (rest := []) ⟨hx, hb, hml, hown, hts⟩ (k_coilVoltage_oor (z := 0) (t := -1) hI ⟨by omega, by omega⟩ ⟨by omega, by omega⟩ (by omega)) (cwV 2 hts gL_sums_X0_coilVoltage rfl rfl rfl (by decide +kernel) ⟨Nat.le_of_ble_eq_true rfl, Nat.le_of_ble_eq_true rfl⟩) hP3 hK rfl rfl rfl hl.1 rfl (Nat.le_of_ble_eq_true rfl) dL_sums_83 ⟨Nat.zero_le _, Nat.zero_le _⟩ ?_
    refine zb_sipush hx hb dL_sums_86 (by decide) ?_
    refine zb_cne (tgt := 111) hx hb dL_sums_89 (by decide) (by omega) (by omega) (fun c89 => absurd c89 (by omega)) (fun c89 => ?_)
    refine lv_aload_n hx hb dL_sums_92 rfl (lv_at hl 4 rfl) ?_
    refine lv_aload_n hx hb dL_sums_93 rfl (lv_at hl 2 rfl) ?_
    refine zb_iconst hx hb dL_sums_94 ?_
    refine aw_dld hx hb hK hP 3 1 rfl rfl 3 (by decide) dL_sums_95 ?_
    refine zb_bipush hx hb dL_sums_96 (by decide) ?_
    refine aw_callV (As := [.int (zI (dv 3)), .int (zI 101)]) (rest := []) ⟨hx, hb, hml, hown, hts⟩ (k_coilVoltage_no (z := dv 3) (t := 101) hI ⟨by omega, by omega⟩ (by omega)) (cwV 2 hts gL_sums_X0_coilVoltage rfl rfl rfl (by decide +kernel) ⟨Nat.le_of_ble_eq_true rfl, Nat.le_of_ble_eq_true rfl⟩) hP3 hK rfl rfl rfl hl.1 rfl (Nat.le_of_ble_eq_true rfl) dL_sums_98 ⟨Nat.zero_le _, Nat.zero_le _⟩ ?_
    refine zb_sipush hx hb dL_sums_101 (by decide) ?_
    refine zb_cne (tgt := 111) hx hb dL_sums_104 (by decide) (by omega) (by omega) (fun c104 => absurd c104 (by omega)) (fun c104 => ?_)
    refine zb_iconst hx hb dL_sums_107 ?_
    refine lv_goto (tgt := 112) hx hb dL_sums_108 (by decide) ?_
    exact aw_zret hx hb hr hlocks dL_sums_112 (by omega) rfl
  · skip
    have hz : 0 ≤ z ∧ z < dv 3 := ⟨by omega, by omega⟩
    have hv := aw_vt_in (dv 0) (dv 1) (dv 2) (dv 8) z t
    have hp := aw_vt_per (dv 0) (dv 1) (dv 2) (dv 8) z t
    refine lv_aload_n hx hb dL_sums_13 rfl (lv_at hl 4 rfl) ?_
    refine lv_iload hx hb dL_sums_14 (lv_at hl 0 rfl) ?_
    refine lv_iload_n hx hb dL_sums_16 rfl (lv_at hl 3 rfl) ?_
    refine aw_callV (As := [.int (zI z), .int (zI t)]) (rest := []) ⟨hx, hb, hml, hown, hts⟩ (k_coilVoltage (z := z) (t := t) hI hz ⟨by omega, by omega⟩) (cwV 2 hts gL_sums_X0_coilVoltage rfl rfl rfl (by decide +kernel) ⟨Nat.le_of_ble_eq_true rfl, Nat.le_of_ble_eq_true rfl⟩) hP3 hK rfl rfl rfl hl.1 rfl (Nat.le_of_ble_eq_true rfl) dL_sums_17 ⟨Nat.zero_le _, Nat.zero_le _⟩ ?_
    refine lv_istore (lv' := [(5, .int (zI (aw_vt (dv 0) (dv 1) (dv 2) (dv 8) z t))), (4, .int (zI z)), (3, .int (zI n)), (2, .ref da), (1, .int (zI t)), (0, .ref o)]) hx hb dL_sums_20 hl (by decide) rfl (fun ls hl => ?_)
    refine lv_iload hx hb dL_sums_22 (lv_at hl 0 rfl) ?_
    refine lv_aload_n hx hb dL_sums_24 rfl (lv_at hl 3 rfl) ?_
    refine lv_iload hx hb dL_sums_25 (lv_at hl 1 rfl) ?_
    refine lv_iload_n hx hb dL_sums_27 rfl (lv_at hl 4 rfl) ?_
    refine aw_callS (As := [.ref da, .int (zI z), .int (zI t)]) (rest := [.int (zI (aw_vt (dv 0) (dv 1) (dv 2) (dv 8) z t))]) ⟨hx, hb, hml, hown, hts⟩ (k_lvoltage (z := z) (t := t) hI hz ⟨by omega, by omega⟩) (va_cwS 3 hts gL_sums_L_voltage rfl rfl rfl (by decide +kernel) ⟨Nat.le_of_ble_eq_true rfl, Nat.le_of_ble_eq_true rfl⟩) hPd hK rfl hl.1 rfl (Nat.le_of_ble_eq_true rfl) dL_sums_28 ⟨Nat.zero_le _, Nat.zero_le _⟩ ?_
    refine zb_cne (tgt := 50) hx hb dL_sums_31 (by decide) (by omega) (by omega) (fun c31 => absurd c31 (by omega)) (fun c31 => ?_)
    refine lv_iload hx hb dL_sums_34 (lv_at hl 0 rfl) ?_
    refine lv_aload_n hx hb dL_sums_36 rfl (lv_at hl 5 rfl) ?_
    refine lv_iload hx hb dL_sums_37 (lv_at hl 1 rfl) ?_
    refine lv_iload_n hx hb dL_sums_39 rfl (lv_at hl 4 rfl) ?_
    refine lv_aload_n hx hb dL_sums_40 rfl (lv_at hl 3 rfl) ?_
    refine zb_iconst hx hb dL_sums_41 ?_
    refine aw_dld hx hb hK hP 3 1 rfl rfl 1 (by decide) dL_sums_42 ?_
    refine zb_add hx hb dL_sums_43 ?_
    refine aw_callV (As := [.int (zI z), .int (zI (t + (dv 1)))]) (rest := [.int (zI (aw_vt (dv 0) (dv 1) (dv 2) (dv 8) z t))]) ⟨hx, hb, hml, hown, hts⟩ (k_coilVoltage (z := z) (t := t + dv 1) hI hz ⟨by omega, by omega⟩) (cwV 2 hts gL_sums_X0_coilVoltage rfl rfl rfl (by decide +kernel) ⟨Nat.le_of_ble_eq_true rfl, Nat.le_of_ble_eq_true rfl⟩) hP3 hK rfl rfl rfl hl.1 rfl (Nat.le_of_ble_eq_true rfl) dL_sums_44 ⟨Nat.zero_le _, Nat.zero_le _⟩ ?_
    refine zb_ceq (tgt := 52) hx hb dL_sums_47 (by decide) (by omega) (by omega) (fun c47 => ?_) (fun c47 => absurd c47 (by omega))
    refine lv_iload_n hx hb dL_sums_52 rfl (lv_at hl 2 rfl) ?_
    refine lv_iload hx hb dL_sums_53 (lv_at hl 0 rfl) ?_
    refine zb_add hx hb dL_sums_55 ?_
    refine lv_istore_n (lv' := [(3, .int (zI (n + (aw_vt (dv 0) (dv 1) (dv 2) (dv 8) z t)))), (5, .int (zI (aw_vt (dv 0) (dv 1) (dv 2) (dv 8) z t))), (4, .int (zI z)), (2, .ref da), (1, .int (zI t)), (0, .ref o)]) hx hb dL_sums_56 rfl hl (by decide) rfl (fun ls hl => ?_)
    refine zb_iinc (lv' := [(4, .int (zI (z + 1))), (3, .int (zI (n + (aw_vt (dv 0) (dv 1) (dv 2) (dv 8) z t)))), (5, .int (zI (aw_vt (dv 0) (dv 1) (dv 2) (dv 8) z t))), (2, .ref da), (1, .int (zI t)), (0, .ref o)]) hx hb dL_sums_57 hl (k := 2) rfl (by decide) rfl (fun ls hl => ?_)
    refine lv_goto (tgt := 5) hx hb dL_sums_60 (by decide) ?_
    exact ih5 (n + (aw_vt (dv 0) (dv 1) (dv 2) (dv 8) z t)) (z + 1) ls ⟨by omega, by omega, by rw [aw_sm_s _ hJ5.1, hJ5.2.2.1], by omega, by omega⟩ (by omega) (lv_sub hl [0, 1, 3, 4, 5] rfl)
end
