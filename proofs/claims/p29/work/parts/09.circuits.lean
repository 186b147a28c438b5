section
variable {l : Launch} {D : va_G} {yZ yI : ClassId} {o oa ba da pa : Nat} {P S K N w ch : Int} {ty px pr : Int32} {ob : Int → Bool} {g pf : Nat → Int32} {dv : Nat → Int}
set_option maxHeartbeats 4000000 in
set_option maxRecDepth 100000 in
/-- the law's circuits: true -/
theorem k_circuits (hI : aw_In (dv 0) (dv 1) (dv 2) (dv 3) (dv 7) (dv 8)) (hO : aw_OB pf ob) : aw_RO l yL_circuits wsL_circuits (aw_rm 4 89) D (aw_T yZ yI) (aw_W5 yZ yI o oa ba da pa dv pf ty px pr ob g) [.ref o, .ref da, .ref pa] (1) := by
  refine Met.ofW (cc := cL_circuits) (maxL := 12) (ret := (some .boolean)) (by decide) rfl ?_
  intro p e s m args below meth c s₁ B hml hv
  obtain ⟨rfl, hP, hK⟩ := hv
  have hx := B.exec
  have hb := B.bytes
  have hr := B.returns
  have hts := atoms_spec (ws := wsL_circuits) B.pre
  have hown : s.vm.findClass RL = some m.cls := findClass_of_methodNamed B.named
  have hlocks := B.notSynchronized
  have hl := lv_entry ([.ref o, .ref da, .ref pa]) (n := 12) (Nat.le_of_ble_eq_true rfl)
  rw [lg_entry_eq]
  generalize (lg_sl ([.ref o, .ref da, .ref pa]) ++ List.replicate (12 - (lg_sl ([.ref o, .ref da, .ref pa])).length) Slot.unset).toArray = ls at hl ⊢
  have hl : lv_has ls 12 [(0, .ref o), (1, .ref da), (2, .ref pa)] := hl
  obtain ⟨i1, i2, i3, i4, i5, i6, i7, i8, i9, i10, i11, i12, i13⟩ := id hI
  have hP3 : va_P D vwCl (aw_W3 yZ yI o oa ba (dv 0) (dv 1) (dv 2) (dv 3) ty px pr (dv 7) (dv 8) ob g) s.heap := hP.sub [0, 1, 2] rfl
  have hPd : va_P D vwCl [aw_Dr yI da dv] s.heap := hP.sub [3] rfl
  have hPm : va_P D vwCl [aw_Mr yI pa pf] s.heap := hP.sub [4] rfl
  have hN : 0 < dv 3 := by omega
  have hG := aw_gc_in (w := dv 7) hN
  have hL := aw_ln_in (w := dv 7) hN
  have hLG := aw_ln_eq (w := dv 7) hN
  have hm := aw_mod (x := dv 7) hN
  refine lv_aload_n hx hb dL_circuits_0 rfl (lv_at hl 1 rfl) ?_
  refine zb_bipush hx hb dL_circuits_1 (by decide) ?_
  refine aw_dld hx hb hK hP 3 1 rfl rfl 7 (by decide) dL_circuits_3 ?_
  refine lv_aload_n hx hb dL_circuits_4 rfl (lv_at hl 1 rfl) ?_
  refine zb_iconst hx hb dL_circuits_5 ?_
  refine aw_dld hx hb hK hP 3 1 rfl rfl 3 (by decide) dL_circuits_6 ?_
  refine aw_callS (As := [.int (zI (dv 7)), .int (zI (dv 3))]) (rest := []) ⟨hx, hb, hml, hown, hts⟩ (k_mod (x := dv 7) (n := dv 3) ⟨by omega, by omega⟩ ⟨by omega, by omega⟩) (va_cwS 2 hts gL_circuits_L_mod rfl rfl rfl (by decide +kernel) ⟨Nat.le_of_ble_eq_true rfl, Nat.le_of_ble_eq_true rfl⟩) (hP.sub (ws' := []) [] rfl) (hK.sub (tys' := []) [] rfl) rfl hl.1 rfl (Nat.le_of_ble_eq_true rfl) dL_circuits_7 ⟨Nat.zero_le _, Nat.zero_le _⟩ ?_
  refine lv_aload_n hx hb dL_circuits_10 rfl (lv_at hl 1 rfl) ?_
  refine zb_iconst hx hb dL_circuits_11 ?_
  refine aw_dld hx hb hK hP 3 1 rfl rfl 3 (by decide) dL_circuits_12 ?_
  refine aw_callS (As := [.int (zI (dv 7 % dv 3)), .int (zI (dv 3))]) (rest := []) ⟨hx, hb, hml, hown, hts⟩ (k_gcd (a := dv 7 % dv 3) (b := dv 3) ⟨by omega, by omega⟩ ⟨by omega, by omega⟩) (va_cwS 2 hts gL_circuits_L_gcd rfl rfl rfl (by decide +kernel) ⟨Nat.le_of_ble_eq_true rfl, Nat.le_of_ble_eq_true rfl⟩) (hP.sub (ws' := []) [] rfl) (hK.sub (tys' := []) [] rfl) rfl hl.1 rfl (Nat.le_of_ble_eq_true rfl) dL_circuits_13 ⟨Nat.zero_le _, Nat.zero_le _⟩ ?_
  refine lv_istore_n (lv' := [(3, .int (zI (aw_gc (dv 7) (dv 3)))), (0, .ref o), (1, .ref da), (2, .ref pa)]) hx hb dL_circuits_16 rfl hl (by decide) rfl (fun ls hl => ?_)
  refine lv_aload_n hx hb dL_circuits_17 rfl (lv_at hl 2 rfl) ?_
  refine zb_bipush hx hb dL_circuits_18 (by decide) ?_
  refine aw_dld hx hb hK hP 3 1 rfl rfl 7 (by decide) dL_circuits_20 ?_
  refine lv_aload_n hx hb dL_circuits_21 rfl (lv_at hl 2 rfl) ?_
  refine zb_iconst hx hb dL_circuits_22 ?_
  refine aw_dld hx hb hK hP 3 1 rfl rfl 3 (by decide) dL_circuits_23 ?_
  refine aw_callS (As := [.int (zI (dv 7)), .int (zI (dv 3))]) (rest := []) ⟨hx, hb, hml, hown, hts⟩ (k_mod (x := dv 7) (n := dv 3) ⟨by omega, by omega⟩ ⟨by omega, by omega⟩) (va_cwS 2 hts gL_circuits_L_mod rfl rfl rfl (by decide +kernel) ⟨Nat.le_of_ble_eq_true rfl, Nat.le_of_ble_eq_true rfl⟩) (hP.sub (ws' := []) [] rfl) (hK.sub (tys' := []) [] rfl) rfl hl.1 rfl (Nat.le_of_ble_eq_true rfl) dL_circuits_24 ⟨Nat.zero_le _, Nat.zero_le _⟩ ?_
  refine zb_join (fun u => u = aw_gc (dv 7) (dv 3)) (pcj := 37) (lj := ls) (rj := []) (fun u hu => ?_) (fun hj37 => ?_)
  rotate_left
  · skip
    refine zb_ine (tgt := 36) hx hb dL_circuits_27 (by decide) (by omega) (fun c27 => ?_) (fun c27 => ?_)
    · skip
      refine lv_iload_n hx hb dL_circuits_36 rfl (lv_at hl 0 rfl) ?_
      exact hj37 (aw_gc (dv 7) (dv 3)) rfl
    · skip
      refine lv_aload_n hx hb dL_circuits_30 rfl (lv_at hl 2 rfl) ?_
      refine zb_iconst hx hb dL_circuits_31 ?_
      refine aw_dld hx hb hK hP 3 1 rfl rfl 3 (by decide) dL_circuits_32 ?_
      refine lv_goto (tgt := 37) hx hb dL_circuits_33 (by decide) ?_
      exact hj37 (dv 3) (aw_gc_0 hN (by omega)).symm
  · skip
    subst hu
    refine lv_istore_n (lv' := [(3, .int (zI (aw_gc (dv 7) (dv 3)))), (0, .ref o), (1, .ref da), (2, .ref pa)]) hx hb dL_circuits_37 rfl hl (by decide) rfl (fun ls hl => ?_)
    refine zb_iconst hx hb dL_circuits_38 ?_
    refine lv_istore (lv' := [(4, .int (zI 0)), (3, .int (zI (aw_gc (dv 7) (dv 3)))), (0, .ref o), (1, .ref da), (2, .ref pa)]) hx hb dL_circuits_39 hl (by decide) rfl (fun ls hl => ?_)
    refine zb_iconst hx hb dL_circuits_41 ?_
    refine lv_istore (lv' := [(5, .int (zI 0)), (4, .int (zI 0)), (3, .int (zI (aw_gc (dv 7) (dv 3)))), (0, .ref o), (1, .ref da), (2, .ref pa)]) hx hb dL_circuits_42 hl (by decide) rfl (fun ls hl => ?_)
    refine zb_iconst hx hb dL_circuits_44 ?_
    refine lv_istore (lv' := [(6, .int (zI ((-1)))), (5, .int (zI 0)), (4, .int (zI 0)), (3, .int (zI (aw_gc (dv 7) (dv 3)))), (0, .ref o), (1, .ref da), (2, .ref pa)]) hx hb dL_circuits_45 hl (by decide) rfl (fun ls hl => ?_)
    refine zb_iconst hx hb dL_circuits_47 ?_
    refine lv_istore (lv' := [(7, .int (zI 0)), (6, .int (zI ((-1)))), (5, .int (zI 0)), (4, .int (zI 0)), (3, .int (zI (aw_gc (dv 7) (dv 3)))), (0, .ref o), (1, .ref da), (2, .ref pa)]) hx hb dL_circuits_48 hl (by decide) rfl (fun ls hl => ?_)
    refine zb_lp4 (nL := 12) (fun pp cl la q => 0 ≤ q ∧ q ≤ aw_gc (dv 7) (dv 3) ∧ pp = q * aw_ln (dv 7) (dv 3) ∧ cl = aw_cn (aw_cl (dv 7) (dv 3) ob) q ∧ la = q - 1) (fun pp cl la q => [(7, .int (zI q)), (6, .int (zI la)), (5, .int (zI cl)), (4, .int (zI pp)), (3, .int (zI (aw_gc (dv 7) (dv 3)))), (2, .ref pa), (1, .ref da), (0, .ref o)]) (fun pp cl la q => aw_gc (dv 7) (dv 3) - q) 0 0 ((-1)) 0 ⟨by omega, by omega, by omega, (aw_cn_0 _).symm, by omega⟩ (lv_sub hl [0, 1, 2, 3, 4, 7, 6, 5] rfl) ?_
    intro pp cl la q ls hJ50 hl ih50
    have hJ50 : 0 ≤ q ∧ q ≤ aw_gc (dv 7) (dv 3) ∧ pp = q * aw_ln (dv 7) (dv 3) ∧ cl = aw_cn (aw_cl (dv 7) (dv 3) ob) q ∧ la = q - 1 := hJ50
    have hl : lv_has ls 12 [(7, .int (zI q)), (6, .int (zI la)), (5, .int (zI cl)), (4, .int (zI pp)), (3, .int (zI (aw_gc (dv 7) (dv 3)))), (2, .ref pa), (1, .ref da), (0, .ref o)] := hl
    have hcn := aw_cn_le (aw_cl (dv 7) (dv 3) ob) (z := q) hJ50.1
    have hqL := aw_mul (x := q) (y := aw_ln (dv 7) (dv 3)) (a := 72) (b := 72) (by omega) (by omega) (by omega) (by omega)
    refine lv_iload hx hb dL_circuits_50 (lv_at hl 0 rfl) ?_
    refine lv_iload_n hx hb dL_circuits_52 rfl (lv_at hl 4 rfl) ?_
    refine zb_cge (tgt := 270) hx hb dL_circuits_53 (by decide) (by omega) (by omega) (fun c53 => ?_) (fun c53 => ?_)
    · skip
      have e50 : q = aw_gc (dv 7) (dv 3) := by omega
      have hcl2 : cl = aw_cn (aw_cl (dv 7) (dv 3) ob) (aw_gc (dv 7) (dv 3)) := by rw [hJ50.2.2.2.1, e50]
      have hpp2 : pp = dv 3 := by rw [hJ50.2.2.1, e50, Int.mul_comm]; exact hLG
      have hcn2 := aw_cn_le (aw_cl (dv 7) (dv 3) ob) (z := aw_gc (dv 7) (dv 3)) (by omega)
      refine lv_iload hx hb dL_circuits_270 (lv_at hl 3 rfl) ?_
      refine lv_aload_n hx hb dL_circuits_272 rfl (lv_at hl 6 rfl) ?_
      refine zb_iconst hx hb dL_circuits_273 ?_
      refine aw_dld hx hb hK hP 3 1 rfl rfl 3 (by decide) dL_circuits_274 ?_
      refine zb_cne (tgt := 337) hx hb dL_circuits_275 (by decide) (by omega) (by omega) (fun c275 => absurd c275 (by omega)) (fun c275 => ?_)
      refine lv_aload_n hx hb dL_circuits_278 rfl (lv_at hl 7 rfl) ?_
      refine aw_callV (As := []) (rest := []) ⟨hx, hb, hml, hown, hts⟩ (k_circuitCount hI) (cwV 0 hts gL_circuits_X0_circuitCount rfl rfl rfl (by decide +kernel) ⟨Nat.le_of_ble_eq_true rfl, Nat.le_of_ble_eq_true rfl⟩) hP3 hK rfl rfl rfl hl.1 rfl (Nat.le_of_ble_eq_true rfl) dL_circuits_279 ⟨Nat.zero_le _, Nat.zero_le _⟩ ?_
      refine lv_iload_n hx hb dL_circuits_282 rfl (lv_at hl 4 rfl) ?_
      refine zb_cne (tgt := 337) hx hb dL_circuits_283 (by decide) (by omega) (by omega) (fun c283 => absurd c283 (by omega)) (fun c283 => ?_)
      refine lv_aload_n hx hb dL_circuits_286 rfl (lv_at hl 7 rfl) ?_
      refine aw_callV (As := []) (rest := []) ⟨hx, hb, hml, hown, hts⟩ (k_closedCircuits hI) (cwV 0 hts gL_circuits_X0_closedCircuits rfl rfl rfl (by decide +kernel) ⟨Nat.le_of_ble_eq_true rfl, Nat.le_of_ble_eq_true rfl⟩) hP3 hK rfl rfl rfl hl.1 rfl (Nat.le_of_ble_eq_true rfl) dL_circuits_287 ⟨Nat.zero_le _, Nat.zero_le _⟩ ?_
      refine lv_iload hx hb dL_circuits_290 (lv_at hl 2 rfl) ?_
      refine zb_cne (tgt := 337) hx hb dL_circuits_292 (by decide) (by omega) (by omega) (fun c292 => absurd c292 (by omega)) (fun c292 => ?_)
      refine lv_aload_n hx hb dL_circuits_295 rfl (lv_at hl 7 rfl) ?_
      refine lv_iload_n hx hb dL_circuits_296 rfl (lv_at hl 4 rfl) ?_
      refine zb_iconst hx hb dL_circuits_297 ?_
      refine aw_callV (As := [.int (zI (aw_gc (dv 7) (dv 3))), .int (zI 0)]) (rest := []) ⟨hx, hb, hml, hown, hts⟩ (k_coilAt_no (q := aw_gc (dv 7) (dv 3)) (k := 0) hI ⟨by omega, by omega⟩ (by omega)) (cwV 2 hts gL_circuits_X0_coilAt rfl rfl rfl (by decide +kernel) ⟨Nat.le_of_ble_eq_true rfl, Nat.le_of_ble_eq_true rfl⟩) hP3 hK rfl rfl rfl hl.1 rfl (Nat.le_of_ble_eq_true rfl) dL_circuits_298 ⟨Nat.zero_le _, Nat.zero_le _⟩ ?_
      refine zb_sipush hx hb dL_circuits_301 (by decide) ?_
      refine zb_cne (tgt := 337) hx hb dL_circuits_304 (by decide) (by omega) (by omega) (fun c304 => absurd c304 (by omega)) (fun c304 => ?_)
      refine lv_aload_n hx hb dL_circuits_307 rfl (lv_at hl 7 rfl) ?_
      refine zb_iconst hx hb dL_circuits_308 ?_
      refine zb_bipush hx hb dL_circuits_309 (by decide) ?_
      refine aw_callV (As := [.int (zI ((-1))), .int (zI 9)]) (rest := []) ⟨hx, hb, hml, hown, hts⟩ (k_coilAt_no (q := -1) (k := 9) hI ⟨by omega, by omega⟩ (by omega)) (cwV 2 hts gL_circuits_X0_coilAt rfl rfl rfl (by decide +kernel) ⟨Nat.le_of_ble_eq_true rfl, Nat.le_of_ble_eq_true rfl⟩) hP3 hK rfl rfl rfl hl.1 rfl (Nat.le_of_ble_eq_true rfl) dL_circuits_311 ⟨Nat.zero_le _, Nat.zero_le _⟩ ?_
      refine zb_sipush hx hb dL_circuits_314 (by decide) ?_
      refine zb_cne (tgt := 337) hx hb dL_circuits_317 (by decide) (by omega) (by omega) (fun c317 => absurd c317 (by omega)) (fun c317 => ?_)
      refine lv_aload_n hx hb dL_circuits_320 rfl (lv_at hl 7 rfl) ?_
      refine lv_aload_n hx hb dL_circuits_321 rfl (lv_at hl 6 rfl) ?_
      refine zb_iconst hx hb dL_circuits_322 ?_
      refine aw_dld hx hb hK hP 3 1 rfl rfl 3 (by decide) dL_circuits_323 ?_
      refine aw_callV (As := [.int (zI (dv 3))]) (rest := []) ⟨hx, hb, hml, hown, hts⟩ (k_circuitOf_no (z := dv 3) hI ⟨by omega, by omega⟩ (by omega)) (cwV 1 hts gL_circuits_X0_circuitOf rfl rfl rfl (by decide +kernel) ⟨Nat.le_of_ble_eq_true rfl, Nat.le_of_ble_eq_true rfl⟩) hP3 hK rfl rfl rfl hl.1 rfl (Nat.le_of_ble_eq_true rfl) dL_circuits_324 ⟨Nat.zero_le _, Nat.zero_le _⟩ ?_
      refine zb_sipush hx hb dL_circuits_327 (by decide) ?_
      refine zb_cne (tgt := 337) hx hb dL_circuits_330 (by decide) (by omega) (by omega) (fun c330 => absurd c330 (by omega)) (fun c330 => ?_)
      refine zb_iconst hx hb dL_circuits_333 ?_
      refine lv_goto (tgt := 338) hx hb dL_circuits_334 (by decide) ?_
      exact aw_zret hx hb hr hlocks dL_circuits_338 (by omega) rfl
    · skip
      refine lv_aload_n hx hb dL_circuits_56 rfl (lv_at hl 6 rfl) ?_
      refine zb_iconst hx hb dL_circuits_57 ?_
      refine aw_dld hx hb hK hP 3 1 rfl rfl 3 (by decide) dL_circuits_58 ?_
      refine lv_iload_n hx hb dL_circuits_59 rfl (lv_at hl 4 rfl) ?_
      refine zb_div hx hb dL_circuits_60 (by omega) (by omega) ?_
      refine zb_as (aw_ln (dv 7) (dv 3)) rfl ?_
      refine lv_istore (lv' := [(8, .int (zI (aw_ln (dv 7) (dv 3)))), (7, .int (zI q)), (6, .int (zI la)), (5, .int (zI cl)), (4, .int (zI pp)), (3, .int (zI (aw_gc (dv 7) (dv 3)))), (2, .ref pa), (1, .ref da), (0, .ref o)]) hx hb dL_circuits_61 hl (by decide) rfl (fun ls hl => ?_)
      refine zb_iconst hx hb dL_circuits_63 ?_
      refine lv_istore (lv' := [(9, .int (zI 1)), (8, .int (zI (aw_ln (dv 7) (dv 3)))), (7, .int (zI q)), (6, .int (zI la)), (5, .int (zI cl)), (4, .int (zI pp)), (3, .int (zI (aw_gc (dv 7) (dv 3)))), (2, .ref pa), (1, .ref da), (0, .ref o)]) hx hb dL_circuits_64 hl (by decide) rfl (fun ls hl => ?_)
      refine zb_iconst hx hb dL_circuits_66 ?_
      refine lv_istore (lv' := [(10, .int (zI 0)), (9, .int (zI 1)), (8, .int (zI (aw_ln (dv 7) (dv 3)))), (7, .int (zI q)), (6, .int (zI la)), (5, .int (zI cl)), (4, .int (zI pp)), (3, .int (zI (aw_gc (dv 7) (dv 3)))), (2, .ref pa), (1, .ref da), (0, .ref o)]) hx hb dL_circuits_67 hl (by decide) rfl (fun ls hl => ?_)
      refine zb_lp3 (nL := 12) (fun pa1 b k => 0 ≤ k ∧ k ≤ aw_ln (dv 7) (dv 3) ∧ pa1 = q * aw_ln (dv 7) (dv 3) + k ∧ b = aw_b (aw_al (aw_ci (dv 7) (dv 3) ob q) k)) (fun pa1 b k => [(10, .int (zI k)), (9, .int (zI b)), (8, .int (zI (aw_ln (dv 7) (dv 3)))), (4, .int (zI pa1)), (7, .int (zI q)), (6, .int (zI la)), (5, .int (zI cl)), (3, .int (zI (aw_gc (dv 7) (dv 3)))), (2, .ref pa), (1, .ref da), (0, .ref o)]) (fun pa1 b k => aw_ln (dv 7) (dv 3) - k) pp 1 0 ⟨by omega, by omega, by omega, rfl⟩ (lv_sub hl [0, 1, 2, 6, 3, 4, 5, 7, 8, 9, 10] rfl) ?_
      intro pa1 b k ls hJ69 hl ih69
      have hJ69 : 0 ≤ k ∧ k ≤ aw_ln (dv 7) (dv 3) ∧ pa1 = q * aw_ln (dv 7) (dv 3) + k ∧ b = aw_b (aw_al (aw_ci (dv 7) (dv 3) ob q) k) := hJ69
      have hl : lv_has ls 12 [(10, .int (zI k)), (9, .int (zI b)), (8, .int (zI (aw_ln (dv 7) (dv 3)))), (4, .int (zI pa1)), (7, .int (zI q)), (6, .int (zI la)), (5, .int (zI cl)), (3, .int (zI (aw_gc (dv 7) (dv 3)))), (2, .ref pa), (1, .ref da), (0, .ref o)] := hl
      have hkb := aw_b_01 (aw_al (aw_ci (dv 7) (dv 3) ob q) k)
      refine lv_iload hx hb dL_circuits_69 (lv_at hl 0 rfl) ?_
      refine lv_iload hx hb dL_circuits_71 (lv_at hl 2 rfl) ?_
      refine zb_cge (tgt := 175) hx hb dL_circuits_73 (by decide) (by omega) (by omega) (fun c73 => ?_) (fun c73 => ?_)
      · skip
        have e69 : k = aw_ln (dv 7) (dv 3) := by omega
        refine lv_aload_n hx hb dL_circuits_175 rfl (lv_at hl 10 rfl) ?_
        refine lv_iload hx hb dL_circuits_176 (lv_at hl 4 rfl) ?_
        refine lv_iload hx hb dL_circuits_178 (lv_at hl 2 rfl) ?_
        refine aw_callV (As := [.int (zI q), .int (zI (aw_ln (dv 7) (dv 3)))]) (rest := []) ⟨hx, hb, hml, hown, hts⟩ (k_coilAt_none (q := q) (k := aw_ln (dv 7) (dv 3)) hI ⟨by omega, by omega⟩ ⟨by omega, by omega⟩ (by omega)) (cwV 2 hts gL_circuits_X0_coilAt rfl rfl rfl (by decide +kernel) ⟨Nat.le_of_ble_eq_true rfl, Nat.le_of_ble_eq_true rfl⟩) hP3 hK rfl rfl rfl hl.1 rfl (Nat.le_of_ble_eq_true rfl) dL_circuits_180 ⟨Nat.zero_le _, Nat.zero_le _⟩ ?_
        refine zb_sipush hx hb dL_circuits_183 (by decide) ?_
        refine zb_cne (tgt := 238) hx hb dL_circuits_186 (by decide) (by omega) (by omega) (fun c186 => absurd c186 (by omega)) (fun c186 => ?_)
        refine lv_aload_n hx hb dL_circuits_189 rfl (lv_at hl 10 rfl) ?_
        refine lv_iload hx hb dL_circuits_190 (lv_at hl 4 rfl) ?_
        refine zb_iconst hx hb dL_circuits_192 ?_
        refine aw_callV (As := [.int (zI q), .int (zI ((-1)))]) (rest := []) ⟨hx, hb, hml, hown, hts⟩ (k_coilAt_none (q := q) (k := -1) hI ⟨by omega, by omega⟩ ⟨by omega, by omega⟩ (by omega)) (cwV 2 hts gL_circuits_X0_coilAt rfl rfl rfl (by decide +kernel) ⟨Nat.le_of_ble_eq_true rfl, Nat.le_of_ble_eq_true rfl⟩) hP3 hK rfl rfl rfl hl.1 rfl (Nat.le_of_ble_eq_true rfl) dL_circuits_193 ⟨Nat.zero_le _, Nat.zero_le _⟩ ?_
        refine zb_sipush hx hb dL_circuits_196 (by decide) ?_
        refine zb_cne (tgt := 238) hx hb dL_circuits_199 (by decide) (by omega) (by omega) (fun c199 => absurd c199 (by omega)) (fun c199 => ?_)
        refine lv_aload_n hx hb dL_circuits_202 rfl (lv_at hl 10 rfl) ?_
        refine lv_aload_n hx hb dL_circuits_203 rfl (lv_at hl 10 rfl) ?_
        refine lv_iload hx hb dL_circuits_204 (lv_at hl 4 rfl) ?_
        refine lv_iload hx hb dL_circuits_206 (lv_at hl 2 rfl) ?_
        refine zb_iconst hx hb dL_circuits_208 ?_
        refine zb_sub hx hb dL_circuits_209 ?_
        refine aw_callV (As := [.int (zI q), .int (zI ((aw_ln (dv 7) (dv 3)) - 1))]) (rest := [.ref o]) ⟨hx, hb, hml, hown, hts⟩ (k_coilAt (q := q) (k := aw_ln (dv 7) (dv 3) - 1) hI ⟨by omega, by omega⟩ ⟨by omega, by omega⟩) (cwV 2 hts gL_circuits_X0_coilAt rfl rfl rfl (by decide +kernel) ⟨Nat.le_of_ble_eq_true rfl, Nat.le_of_ble_eq_true rfl⟩) hP3 hK rfl rfl rfl hl.1 rfl (Nat.le_of_ble_eq_true rfl) dL_circuits_210 ⟨Nat.zero_le _, Nat.zero_le _⟩ ?_
        have h210 := aw_mod (x := q + (aw_ln (dv 7) (dv 3) - 1) * dv 7) hN
        refine aw_callV (As := [.int (zI ((q + (aw_ln (dv 7) (dv 3) - 1) * dv 7) % dv 3))]) (rest := []) ⟨hx, hb, hml, hown, hts⟩ (k_endBar (z := (q + (aw_ln (dv 7) (dv 3) - 1) * dv 7) % dv 3) hI (aw_mod hN)) (cwV 1 hts gL_circuits_X0_endBar rfl rfl rfl (by decide +kernel) ⟨Nat.le_of_ble_eq_true rfl, Nat.le_of_ble_eq_true rfl⟩) hP3 hK rfl rfl rfl hl.1 rfl (Nat.le_of_ble_eq_true rfl) dL_circuits_213 ⟨Nat.zero_le _, Nat.zero_le _⟩ ?_
        refine lv_aload_n hx hb dL_circuits_216 rfl (lv_at hl 10 rfl) ?_
        refine lv_iload hx hb dL_circuits_217 (lv_at hl 4 rfl) ?_
        refine zb_iconst hx hb dL_circuits_219 ?_
        refine aw_callV (As := [.int (zI q), .int (zI 0)]) (rest := [.int (zI (((q + (aw_ln (dv 7) (dv 3) - 1) * dv 7) % dv 3 + dv 7) % dv 3))]) ⟨hx, hb, hml, hown, hts⟩ (k_coilAt (q := q) (k := 0) hI ⟨by omega, by omega⟩ ⟨by omega, by omega⟩) (cwV 2 hts gL_circuits_X0_coilAt rfl rfl rfl (by decide +kernel) ⟨Nat.le_of_ble_eq_true rfl, Nat.le_of_ble_eq_true rfl⟩) hP3 hK rfl rfl rfl hl.1 rfl (Nat.le_of_ble_eq_true rfl) dL_circuits_220 ⟨Nat.zero_le _, Nat.zero_le _⟩ ?_
        refine zb_as (q) (aw_at0 (by omega) (by omega)) ?_
        refine zb_cne (tgt := 238) hx hb dL_circuits_223 (by decide) (by have := aw_mod (x := (q + (aw_ln (dv 7) (dv 3) - 1) * dv 7) % dv 3 + dv 7) hN; omega) (by omega) (fun c223 => absurd c223 (fun hh => hh (aw_back hN (by omega) (by omega)))) (fun c223 => ?_)
        refine lv_aload_n hx hb dL_circuits_226 rfl (lv_at hl 10 rfl) ?_
        refine lv_iload hx hb dL_circuits_227 (lv_at hl 4 rfl) ?_
        refine zb_iconst hx hb dL_circuits_229 ?_
        refine aw_callV (As := [.int (zI q), .int (zI 0)]) (rest := []) ⟨hx, hb, hml, hown, hts⟩ (k_coilAt (q := q) (k := 0) hI ⟨by omega, by omega⟩ ⟨by omega, by omega⟩) (cwV 2 hts gL_circuits_X0_coilAt rfl rfl rfl (by decide +kernel) ⟨Nat.le_of_ble_eq_true rfl, Nat.le_of_ble_eq_true rfl⟩) hP3 hK rfl rfl rfl hl.1 rfl (Nat.le_of_ble_eq_true rfl) dL_circuits_230 ⟨Nat.zero_le _, Nat.zero_le _⟩ ?_
        refine zb_as (q) (aw_at0 (by omega) (by omega)) ?_
        refine lv_iload hx hb dL_circuits_233 (lv_at hl 5 rfl) ?_
        refine zb_cgt (tgt := 240) hx hb dL_circuits_235 (by decide) (by omega) (by omega) (fun c235 => ?_) (fun c235 => absurd c235 (by omega))
        refine lv_aload_n hx hb dL_circuits_240 rfl (lv_at hl 10 rfl) ?_
        refine lv_iload hx hb dL_circuits_241 (lv_at hl 4 rfl) ?_
        refine zb_iconst hx hb dL_circuits_243 ?_
        refine aw_callV (As := [.int (zI q), .int (zI 0)]) (rest := []) ⟨hx, hb, hml, hown, hts⟩ (k_coilAt (q := q) (k := 0) hI ⟨by omega, by omega⟩ ⟨by omega, by omega⟩) (cwV 2 hts gL_circuits_X0_coilAt rfl rfl rfl (by decide +kernel) ⟨Nat.le_of_ble_eq_true rfl, Nat.le_of_ble_eq_true rfl⟩) hP3 hK rfl rfl rfl hl.1 rfl (Nat.le_of_ble_eq_true rfl) dL_circuits_244 ⟨Nat.zero_le _, Nat.zero_le _⟩ ?_
        refine zb_as (q) (aw_at0 (by omega) (by omega)) ?_
        refine lv_istore (lv' := [(6, .int (zI q)), (10, .int (zI k)), (9, .int (zI b)), (8, .int (zI (aw_ln (dv 7) (dv 3)))), (4, .int (zI pa1)), (7, .int (zI q)), (5, .int (zI cl)), (3, .int (zI (aw_gc (dv 7) (dv 3)))), (2, .ref pa), (1, .ref da), (0, .ref o)]) hx hb dL_circuits_247 hl (by decide) rfl (fun ls hl => ?_)
        refine lv_iload hx hb dL_circuits_249 (lv_at hl 6 rfl) ?_
        refine lv_iload hx hb dL_circuits_251 (lv_at hl 2 rfl) ?_
        refine zb_ieq (tgt := 260) hx hb dL_circuits_253 (by decide) (by omega) (fun c253 => ?_) (fun c253 => ?_)
        · skip
          refine zb_iconst hx hb dL_circuits_260 ?_
          refine zb_add hx hb dL_circuits_261 ?_
          refine lv_istore (lv' := [(5, .int (zI (cl + 0))), (6, .int (zI q)), (10, .int (zI k)), (9, .int (zI b)), (8, .int (zI (aw_ln (dv 7) (dv 3)))), (4, .int (zI pa1)), (7, .int (zI q)), (3, .int (zI (aw_gc (dv 7) (dv 3)))), (2, .ref pa), (1, .ref da), (0, .ref o)]) hx hb dL_circuits_262 hl (by decide) rfl (fun ls hl => ?_)
          refine zb_iinc (lv' := [(7, .int (zI (q + 1))), (5, .int (zI (cl + 0))), (6, .int (zI q)), (10, .int (zI k)), (9, .int (zI b)), (8, .int (zI (aw_ln (dv 7) (dv 3)))), (4, .int (zI pa1)), (3, .int (zI (aw_gc (dv 7) (dv 3)))), (2, .ref pa), (1, .ref da), (0, .ref o)]) hx hb dL_circuits_264 hl (k := 6) rfl (by decide) rfl (fun ls hl => ?_)
          refine lv_goto (tgt := 50) hx hb dL_circuits_267 (by decide) ?_
          exact ih50 pa1 (cl + 0) q (q + 1) ls ⟨by omega, by omega, by rw [hJ69.2.2.1, e69, Int.add_mul, Int.one_mul], by rw [aw_cn_s _ hJ50.1, hJ50.2.2.2.1, aw_b_f (aw_clf e69 hJ69.2.2.2 c253)], by omega⟩ (by omega) (lv_sub hl [0, 2, 1, 6, 7, 8, 9, 10] rfl)
        · skip
          refine zb_iconst hx hb dL_circuits_256 ?_
          refine lv_goto (tgt := 261) hx hb dL_circuits_257 (by decide) ?_
          refine zb_add hx hb dL_circuits_261 ?_
          refine lv_istore (lv' := [(5, .int (zI (cl + 1))), (6, .int (zI q)), (10, .int (zI k)), (9, .int (zI b)), (8, .int (zI (aw_ln (dv 7) (dv 3)))), (4, .int (zI pa1)), (7, .int (zI q)), (3, .int (zI (aw_gc (dv 7) (dv 3)))), (2, .ref pa), (1, .ref da), (0, .ref o)]) hx hb dL_circuits_262 hl (by decide) rfl (fun ls hl => ?_)
          refine zb_iinc (lv' := [(7, .int (zI (q + 1))), (5, .int (zI (cl + 1))), (6, .int (zI q)), (10, .int (zI k)), (9, .int (zI b)), (8, .int (zI (aw_ln (dv 7) (dv 3)))), (4, .int (zI pa1)), (3, .int (zI (aw_gc (dv 7) (dv 3)))), (2, .ref pa), (1, .ref da), (0, .ref o)]) hx hb dL_circuits_264 hl (k := 6) rfl (by decide) rfl (fun ls hl => ?_)
          refine lv_goto (tgt := 50) hx hb dL_circuits_267 (by decide) ?_
          exact ih50 pa1 (cl + 1) q (q + 1) ls ⟨by omega, by omega, by rw [hJ69.2.2.1, e69, Int.add_mul, Int.one_mul], by rw [aw_cn_s _ hJ50.1, hJ50.2.2.2.1, aw_b_t (aw_clt e69 hJ69.2.2.2 c253)], by omega⟩ (by omega) (lv_sub hl [0, 2, 1, 6, 7, 8, 9, 10] rfl)
      · skip
        refine lv_aload_n hx hb dL_circuits_76 rfl (lv_at hl 10 rfl) ?_
        refine lv_iload hx hb dL_circuits_77 (lv_at hl 4 rfl) ?_
        refine lv_iload hx hb dL_circuits_79 (lv_at hl 0 rfl) ?_
        refine aw_callV (As := [.int (zI q), .int (zI k)]) (rest := []) ⟨hx, hb, hml, hown, hts⟩ (k_coilAt (q := q) (k := k) hI ⟨by omega, by omega⟩ ⟨by omega, by omega⟩) (cwV 2 hts gL_circuits_X0_coilAt rfl rfl rfl (by decide +kernel) ⟨Nat.le_of_ble_eq_true rfl, Nat.le_of_ble_eq_true rfl⟩) hP3 hK rfl rfl rfl hl.1 rfl (Nat.le_of_ble_eq_true rfl) dL_circuits_81 ⟨Nat.zero_le _, Nat.zero_le _⟩ ?_
        refine zb_nm (fun z e_z => ?_)
        have hz : 0 ≤ z ∧ z < dv 3 := by rw [e_z]; exact aw_mod hN
        have hzg : z % aw_gc (dv 7) (dv 3) = q := by rw [e_z, aw_gc_mod hN]; exact Int.emod_eq_of_lt (by omega) (by omega)
        have hzq : q ≤ z := by have := aw_emod_le (z := z) (n := aw_gc (dv 7) (dv 3)) hz.1 (by omega); omega
        have hbz := aw_b_01 (ob z)
        refine lv_istore (lv' := [(11, .int (zI z)), (10, .int (zI k)), (9, .int (zI b)), (8, .int (zI (aw_ln (dv 7) (dv 3)))), (4, .int (zI pa1)), (7, .int (zI q)), (6, .int (zI la)), (5, .int (zI cl)), (3, .int (zI (aw_gc (dv 7) (dv 3)))), (2, .ref pa), (1, .ref da), (0, .ref o)]) hx hb dL_circuits_84 hl (by decide) rfl (fun ls hl => ?_)
        refine lv_iload hx hb dL_circuits_86 (lv_at hl 0 rfl) ?_
        refine zb_ilt (tgt := 143) hx hb dL_circuits_88 (by decide) (by omega) (fun c88 => absurd c88 (by omega)) (fun c88 => ?_)
        refine lv_aload_n hx hb dL_circuits_91 rfl (lv_at hl 11 rfl) ?_
        refine lv_iload hx hb dL_circuits_92 (lv_at hl 0 rfl) ?_
        refine aw_callV (As := [.int (zI z)]) (rest := []) ⟨hx, hb, hml, hown, hts⟩ (k_circuitOf (z := z) hI hz) (cwV 1 hts gL_circuits_X0_circuitOf rfl rfl rfl (by decide +kernel) ⟨Nat.le_of_ble_eq_true rfl, Nat.le_of_ble_eq_true rfl⟩) hP3 hK rfl rfl rfl hl.1 rfl (Nat.le_of_ble_eq_true rfl) dL_circuits_94 ⟨Nat.zero_le _, Nat.zero_le _⟩ ?_
        refine lv_iload hx hb dL_circuits_97 (lv_at hl 5 rfl) ?_
        refine zb_cne (tgt := 143) hx hb dL_circuits_99 (by decide) (by omega) (by omega) (fun c99 => absurd c99 (by omega)) (fun c99 => ?_)
        refine lv_iload hx hb dL_circuits_102 (lv_at hl 1 rfl) ?_
        refine zb_cut (pcj := 145) (lj := ls) (rj := []) ?_ (fun hk145 => ?_)
        rotate_left
        · skip
          refine zb_ile (tgt := 126) hx hb dL_circuits_104 (by decide) (by omega) (fun c104 => ?_) (fun c104 => ?_)
          · skip
            refine lv_iload hx hb dL_circuits_126 (lv_at hl 1 rfl) ?_
            refine zb_ile (tgt := 145) hx hb dL_circuits_128 (by decide) (by omega) (fun c128 => ?_) (fun c128 => absurd c128 (by omega))
            exact hk145
          · skip
            refine lv_iload hx hb dL_circuits_107 (lv_at hl 0 rfl) ?_
            refine lv_aload_n hx hb dL_circuits_109 rfl (lv_at hl 11 rfl) ?_
            refine lv_aload_n hx hb dL_circuits_110 rfl (lv_at hl 11 rfl) ?_
            refine lv_iload hx hb dL_circuits_111 (lv_at hl 5 rfl) ?_
            refine lv_iload hx hb dL_circuits_113 (lv_at hl 1 rfl) ?_
            refine zb_iconst hx hb dL_circuits_115 ?_
            refine zb_sub hx hb dL_circuits_116 ?_
            refine aw_callV (As := [.int (zI q), .int (zI (k - 1))]) (rest := [.ref o, .int (zI z)]) ⟨hx, hb, hml, hown, hts⟩ (k_coilAt (q := q) (k := k - 1) hI ⟨by omega, by omega⟩ ⟨by omega, by omega⟩) (cwV 2 hts gL_circuits_X0_coilAt rfl rfl rfl (by decide +kernel) ⟨Nat.le_of_ble_eq_true rfl, Nat.le_of_ble_eq_true rfl⟩) hP3 hK rfl rfl rfl hl.1 rfl (Nat.le_of_ble_eq_true rfl) dL_circuits_117 ⟨Nat.zero_le _, Nat.zero_le _⟩ ?_
            have h117 := aw_mod (x := q + (k - 1) * dv 7) hN
            refine aw_callV (As := [.int (zI ((q + (k - 1) * dv 7) % dv 3))]) (rest := [.int (zI z)]) ⟨hx, hb, hml, hown, hts⟩ (k_endBar (z := (q + (k - 1) * dv 7) % dv 3) hI (aw_mod hN)) (cwV 1 hts gL_circuits_X0_endBar rfl rfl rfl (by decide +kernel) ⟨Nat.le_of_ble_eq_true rfl, Nat.le_of_ble_eq_true rfl⟩) hP3 hK rfl rfl rfl hl.1 rfl (Nat.le_of_ble_eq_true rfl) dL_circuits_120 ⟨Nat.zero_le _, Nat.zero_le _⟩ ?_
            have h120 := aw_mod (x := (q + (k - 1) * dv 7) % dv 3 + dv 7) hN
            refine zb_cne (tgt := 143) hx hb dL_circuits_123 (by decide) (by omega) (by omega) (fun c123 => absurd c123 (fun hh => hh (e_z.trans (aw_next hN).symm))) (fun c123 => ?_)
            refine lv_iload hx hb dL_circuits_126 (lv_at hl 1 rfl) ?_
            refine zb_ile (tgt := 145) hx hb dL_circuits_128 (by decide) (by omega) (fun c128 => absurd c128 (by omega)) (fun c128 => ?_)
            refine lv_iload hx hb dL_circuits_131 (lv_at hl 0 rfl) ?_
            refine lv_aload_n hx hb dL_circuits_133 rfl (lv_at hl 11 rfl) ?_
            refine lv_iload hx hb dL_circuits_134 (lv_at hl 5 rfl) ?_
            refine zb_iconst hx hb dL_circuits_136 ?_
            refine aw_callV (As := [.int (zI q), .int (zI 0)]) (rest := [.int (zI z)]) ⟨hx, hb, hml, hown, hts⟩ (k_coilAt (q := q) (k := 0) hI ⟨by omega, by omega⟩ ⟨by omega, by omega⟩) (cwV 2 hts gL_circuits_X0_coilAt rfl rfl rfl (by decide +kernel) ⟨Nat.le_of_ble_eq_true rfl, Nat.le_of_ble_eq_true rfl⟩) hP3 hK rfl rfl rfl hl.1 rfl (Nat.le_of_ble_eq_true rfl) dL_circuits_137 ⟨Nat.zero_le _, Nat.zero_le _⟩ ?_
            refine zb_as (q) (aw_at0 (by omega) (by omega)) ?_
            refine zb_cge (tgt := 145) hx hb dL_circuits_140 (by decide) (by omega) (by omega) (fun c140 => ?_) (fun c140 => absurd c140 (by omega))
            exact hk145
        · skip
          refine lv_iload hx hb dL_circuits_145 (lv_at hl 2 rfl) ?_
          refine zb_ieq (tgt := 163) hx hb dL_circuits_147 (by decide) (by omega) (fun c147 => ?_) (fun c147 => ?_)
          · skip
            refine zb_iconst hx hb dL_circuits_163 ?_
            refine lv_istore (lv' := [(9, .int (zI 0)), (11, .int (zI z)), (10, .int (zI k)), (8, .int (zI (aw_ln (dv 7) (dv 3)))), (4, .int (zI pa1)), (7, .int (zI q)), (6, .int (zI la)), (5, .int (zI cl)), (3, .int (zI (aw_gc (dv 7) (dv 3)))), (2, .ref pa), (1, .ref da), (0, .ref o)]) hx hb dL_circuits_164 hl (by decide) rfl (fun ls hl => ?_)
            refine zb_iinc (lv' := [(4, .int (zI (pa1 + 1))), (9, .int (zI 0)), (11, .int (zI z)), (10, .int (zI k)), (8, .int (zI (aw_ln (dv 7) (dv 3)))), (7, .int (zI q)), (6, .int (zI la)), (5, .int (zI cl)), (3, .int (zI (aw_gc (dv 7) (dv 3)))), (2, .ref pa), (1, .ref da), (0, .ref o)]) hx hb dL_circuits_166 hl (k := 4) rfl (by decide) rfl (fun ls hl => ?_)
            refine zb_iinc (lv' := [(10, .int (zI (k + 1))), (4, .int (zI (pa1 + 1))), (9, .int (zI 0)), (11, .int (zI z)), (8, .int (zI (aw_ln (dv 7) (dv 3)))), (7, .int (zI q)), (6, .int (zI la)), (5, .int (zI cl)), (3, .int (zI (aw_gc (dv 7) (dv 3)))), (2, .ref pa), (1, .ref da), (0, .ref o)]) hx hb dL_circuits_169 hl (k := 3) rfl (by decide) rfl (fun ls hl => ?_)
            refine lv_goto (tgt := 69) hx hb dL_circuits_172 (by decide) ?_
            exact ih69 (pa1 + 1) 0 (k + 1) ls ⟨by omega, by omega, by omega, (aw_ciA hJ69.1 hJ69.2.2.2 c147).symm⟩ (by omega) (lv_sub hl [0, 2, 4, 1, 5, 6, 7, 8, 9, 10, 11] rfl)
          · skip
            refine lv_aload_n hx hb dL_circuits_150 rfl (lv_at hl 9 rfl) ?_
            refine lv_iload hx hb dL_circuits_151 (lv_at hl 0 rfl) ?_
            refine aw_callS (As := [.ref pa, .int (zI z)]) (rest := []) ⟨hx, hb, hml, hown, hts⟩ (k_lisOpen (z := z) hO ⟨by omega, by omega⟩) (va_cwS 2 hts gL_circuits_L_isOpen rfl rfl rfl (by decide +kernel) ⟨Nat.le_of_ble_eq_true rfl, Nat.le_of_ble_eq_true rfl⟩) hPm hK rfl hl.1 rfl (Nat.le_of_ble_eq_true rfl) dL_circuits_153 ⟨Nat.zero_le _, Nat.zero_le _⟩ ?_
            refine zb_ine (tgt := 163) hx hb dL_circuits_156 (by decide) (by omega) (fun c156 => ?_) (fun c156 => ?_)
            · skip
              refine zb_iconst hx hb dL_circuits_163 ?_
              refine lv_istore (lv' := [(9, .int (zI 0)), (11, .int (zI z)), (10, .int (zI k)), (8, .int (zI (aw_ln (dv 7) (dv 3)))), (4, .int (zI pa1)), (7, .int (zI q)), (6, .int (zI la)), (5, .int (zI cl)), (3, .int (zI (aw_gc (dv 7) (dv 3)))), (2, .ref pa), (1, .ref da), (0, .ref o)]) hx hb dL_circuits_164 hl (by decide) rfl (fun ls hl => ?_)
              refine zb_iinc (lv' := [(4, .int (zI (pa1 + 1))), (9, .int (zI 0)), (11, .int (zI z)), (10, .int (zI k)), (8, .int (zI (aw_ln (dv 7) (dv 3)))), (7, .int (zI q)), (6, .int (zI la)), (5, .int (zI cl)), (3, .int (zI (aw_gc (dv 7) (dv 3)))), (2, .ref pa), (1, .ref da), (0, .ref o)]) hx hb dL_circuits_166 hl (k := 4) rfl (by decide) rfl (fun ls hl => ?_)
              refine zb_iinc (lv' := [(10, .int (zI (k + 1))), (4, .int (zI (pa1 + 1))), (9, .int (zI 0)), (11, .int (zI z)), (8, .int (zI (aw_ln (dv 7) (dv 3)))), (7, .int (zI q)), (6, .int (zI la)), (5, .int (zI cl)), (3, .int (zI (aw_gc (dv 7) (dv 3)))), (2, .ref pa), (1, .ref da), (0, .ref o)]) hx hb dL_circuits_169 hl (k := 3) rfl (by decide) rfl (fun ls hl => ?_)
              refine lv_goto (tgt := 69) hx hb dL_circuits_172 (by decide) ?_
              exact ih69 (pa1 + 1) 0 (k + 1) ls ⟨by omega, by omega, by omega, (aw_ciB hJ69.1 e_z c156).symm⟩ (by omega) (lv_sub hl [0, 2, 4, 1, 5, 6, 7, 8, 9, 10, 11] rfl)
            · skip
              refine zb_iconst hx hb dL_circuits_159 ?_
              refine lv_goto (tgt := 164) hx hb dL_circuits_160 (by decide) ?_
              refine lv_istore (lv' := [(9, .int (zI 1)), (11, .int (zI z)), (10, .int (zI k)), (8, .int (zI (aw_ln (dv 7) (dv 3)))), (4, .int (zI pa1)), (7, .int (zI q)), (6, .int (zI la)), (5, .int (zI cl)), (3, .int (zI (aw_gc (dv 7) (dv 3)))), (2, .ref pa), (1, .ref da), (0, .ref o)]) hx hb dL_circuits_164 hl (by decide) rfl (fun ls hl => ?_)
              refine zb_iinc (lv' := [(4, .int (zI (pa1 + 1))), (9, .int (zI 1)), (11, .int (zI z)), (10, .int (zI k)), (8, .int (zI (aw_ln (dv 7) (dv 3)))), (7, .int (zI q)), (6, .int (zI la)), (5, .int (zI cl)), (3, .int (zI (aw_gc (dv 7) (dv 3)))), (2, .ref pa), (1, .ref da), (0, .ref o)]) hx hb dL_circuits_166 hl (k := 4) rfl (by decide) rfl (fun ls hl => ?_)
              refine zb_iinc (lv' := [(10, .int (zI (k + 1))), (4, .int (zI (pa1 + 1))), (9, .int (zI 1)), (11, .int (zI z)), (8, .int (zI (aw_ln (dv 7) (dv 3)))), (7, .int (zI q)), (6, .int (zI la)), (5, .int (zI cl)), (3, .int (zI (aw_gc (dv 7) (dv 3)))), (2, .ref pa), (1, .ref da), (0, .ref o)]) hx hb dL_circuits_169 hl (k := 3) rfl (by decide) rfl (fun ls hl => ?_)
              refine lv_goto (tgt := 69) hx hb dL_circuits_172 (by decide) ?_
              exact ih69 (pa1 + 1) 1 (k + 1) ls ⟨by omega, by omega, by omega, (aw_ciC hJ69.1 hJ69.2.2.2 c147 e_z c156).symm⟩ (by omega) (lv_sub hl [0, 2, 4, 1, 5, 6, 7, 8, 9, 10, 11] rfl)
end
