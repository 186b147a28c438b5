/-- what the law's numbers, its row of interrupted coils, these coils, three fields that nobody reads, and the brushes' row are -/
abbrev aw_S5 : Type := (Nat → Int) × (Nat → Int32) × (Int → Bool) × (Int32 × Int32 × Int32) × (Nat → Int32)
def aw_p5 (u : aw_S5) : Prop := aw_In (u.1 0) (u.1 1) (u.1 2) (u.1 3) (u.1 7) (u.1 8) ∧ aw_OB u.2.1 u.2.2.1
abbrev aw_w5 (yZ yI : ClassId) (o oa ba da pa : Nat) (u : aw_S5) : va_W := aw_W5 yZ yI o oa ba da pa u.1 u.2.1 u.2.2.2.1.1 u.2.2.2.1.2.1 u.2.2.2.1.2.2 u.2.2.1 u.2.2.2.2
theorem aw_tno {x y : Int} (h : ¬ x.tmod y = 0) : ¬ x.tdiv y * y = x := fun e => h (by
  have := Int.mul_tdiv_add_tmod x y
  rw [Int.mul_comm] at this
  omega)
theorem aw_tyes {x y : Int} (h : x.tmod y = 0) : x.tdiv y * y = x := by
  have := Int.mul_tdiv_add_tmod x y
  rw [Int.mul_comm] at this
  omega
section
variable {l : Launch} {D : va_G} {yZ yI : ClassId} {o oa ba da pa : Nat} {P S K N w ch : Int} {ty px pr : Int32} {ob : Int → Bool} {g pf : Nat → Int32} {dv : Nat → Int}
set_option maxHeartbeats 4000000 in
set_option maxRecDepth 100000 in
/-- the law's begin -/
theorem k_begin  : aw_MU (S := Unit) l yL_begin wsL_begin (aw_rm 0 0) D (aw_T yZ yI) [aw_Dr yI da dv] [.ref da] none (fun _ => True) (fun _ => [aw_Dr yI da (aw_ud (aw_ud (aw_ud (aw_ud (aw_ud (aw_ud (aw_ud dv 0 4) 1 12) 2 1) 3 12) 5 1) 6 1) 7 1)]) := by
  intro sz
  refine Met.ofW (cc := cL_begin) (maxL := 1) (ret := none) (by decide) rfl ?_
  intro p e s m args below meth c s₁ B hml hv
  obtain ⟨rfl, hsz, hP, hK, hD0⟩ := hv
  have hx := B.exec
  have hb := B.bytes
  have hr := B.returns
  have hts := atoms_spec (ws := wsL_begin) B.pre
  have hown : s.vm.findClass RL = some m.cls := findClass_of_methodNamed B.named
  have hlocks := B.notSynchronized
  subst hsz
  have hD := hD0.self (sz := s.heap.size)
  have hA : ∀ q : Nat, s.heap.size ≤ q → va_A [aw_Dr yI da dv] s.heap.size q := fun q h => Or.inr h
  have hS : va_S (va_A [aw_Dr yI da dv] s.heap.size) s.heap s.heap [] := va_S.rf
  have hl := lv_entry ([.ref da]) (n := 1) (Nat.le_of_ble_eq_true rfl)
  rw [lg_entry_eq]
  generalize (lg_sl ([.ref da]) ++ List.replicate (1 - (lg_sl ([.ref da])).length) Slot.unset).toArray = ls at hl ⊢
  have hl : lv_has ls 1 [(0, .ref da)] := hl
  refine lv_aload_n hx hb dL_begin_0 rfl (lv_at hl 0 rfl) ?_
  refine zb_iconst hx hb dL_begin_1 ?_
  refine zb_iconst hx hb dL_begin_2 ?_
  refine aw_dst hx hb hK hP hD hS 0 1 rfl rfl 0 (by decide) dL_begin_3 (fun H locs hP hD hS => ?_)
  have hP : va_P D vwCl [aw_Dr yI da (aw_ud dv 0 4)] H := hP
  have hD : va_D _ [aw_Dr yI da (aw_ud dv 0 4)] := hD
  refine lv_aload_n hx hb dL_begin_4 rfl (lv_at hl 0 rfl) ?_
  refine zb_iconst hx hb dL_begin_5 ?_
  refine zb_bipush hx hb dL_begin_6 (by decide) ?_
  refine aw_dst hx hb hK hP hD hS 0 1 rfl rfl 1 (by decide) dL_begin_8 (fun H locs hP hD hS => ?_)
  have hP : va_P D vwCl [aw_Dr yI da (aw_ud (aw_ud dv 0 4) 1 12)] H := hP
  have hD : va_D _ [aw_Dr yI da (aw_ud (aw_ud dv 0 4) 1 12)] := hD
  refine lv_aload_n hx hb dL_begin_9 rfl (lv_at hl 0 rfl) ?_
  refine zb_iconst hx hb dL_begin_10 ?_
  refine zb_iconst hx hb dL_begin_11 ?_
  refine aw_dst hx hb hK hP hD hS 0 1 rfl rfl 2 (by decide) dL_begin_12 (fun H locs hP hD hS => ?_)
  have hP : va_P D vwCl [aw_Dr yI da (aw_ud (aw_ud (aw_ud dv 0 4) 1 12) 2 1)] H := hP
  have hD : va_D _ [aw_Dr yI da (aw_ud (aw_ud (aw_ud dv 0 4) 1 12) 2 1)] := hD
  refine lv_aload_n hx hb dL_begin_13 rfl (lv_at hl 0 rfl) ?_
  refine zb_iconst hx hb dL_begin_14 ?_
  refine zb_bipush hx hb dL_begin_15 (by decide) ?_
  refine aw_dst hx hb hK hP hD hS 0 1 rfl rfl 3 (by decide) dL_begin_17 (fun H locs hP hD hS => ?_)
  have hP : va_P D vwCl [aw_Dr yI da (aw_ud (aw_ud (aw_ud (aw_ud dv 0 4) 1 12) 2 1) 3 12)] H := hP
  have hD : va_D _ [aw_Dr yI da (aw_ud (aw_ud (aw_ud (aw_ud dv 0 4) 1 12) 2 1) 3 12)] := hD
  refine lv_aload_n hx hb dL_begin_18 rfl (lv_at hl 0 rfl) ?_
  refine zb_iconst hx hb dL_begin_19 ?_
  refine zb_iconst hx hb dL_begin_20 ?_
  refine aw_dst hx hb hK hP hD hS 0 1 rfl rfl 5 (by decide) dL_begin_21 (fun H locs hP hD hS => ?_)
  have hP : va_P D vwCl [aw_Dr yI da (aw_ud (aw_ud (aw_ud (aw_ud (aw_ud dv 0 4) 1 12) 2 1) 3 12) 5 1)] H := hP
  have hD : va_D _ [aw_Dr yI da (aw_ud (aw_ud (aw_ud (aw_ud (aw_ud dv 0 4) 1 12) 2 1) 3 12) 5 1)] := hD
  refine lv_aload_n hx hb dL_begin_22 rfl (lv_at hl 0 rfl) ?_
  refine zb_bipush hx hb dL_begin_23 (by decide) ?_
  refine zb_iconst hx hb dL_begin_25 ?_
  refine aw_dst hx hb hK hP hD hS 0 1 rfl rfl 6 (by decide) dL_begin_26 (fun H locs hP hD hS => ?_)
  have hP : va_P D vwCl [aw_Dr yI da (aw_ud (aw_ud (aw_ud (aw_ud (aw_ud (aw_ud dv 0 4) 1 12) 2 1) 3 12) 5 1) 6 1)] H := hP
  have hD : va_D _ [aw_Dr yI da (aw_ud (aw_ud (aw_ud (aw_ud (aw_ud (aw_ud dv 0 4) 1 12) 2 1) 3 12) 5 1) 6 1)] := hD
  refine lv_aload_n hx hb dL_begin_27 rfl (lv_at hl 0 rfl) ?_
  refine zb_bipush hx hb dL_begin_28 (by decide) ?_
  refine zb_iconst hx hb dL_begin_30 ?_
  refine aw_dst hx hb hK hP hD hS 0 1 rfl rfl 7 (by decide) dL_begin_31 (fun H locs hP hD hS => ?_)
  have hP : va_P D vwCl [aw_Dr yI da (aw_ud (aw_ud (aw_ud (aw_ud (aw_ud (aw_ud (aw_ud dv 0 4) 1 12) 2 1) 3 12) 5 1) 6 1) 7 1)] H := hP
  have hD : va_D _ [aw_Dr yI da (aw_ud (aw_ud (aw_ud (aw_ud (aw_ud (aw_ud (aw_ud dv 0 4) 1 12) 2 1) 3 12) 5 1) 6 1) 7 1)] := hD
  exact aw_vretM () hx hb hr hlocks dL_begin_32 trivial hP hK hD hS
set_option maxHeartbeats 4000000 in
set_option maxRecDepth 100000 in
/-- the law's armature: true -/
theorem k_armature {x : Int} (hx0 : 0 ≤ x ∧ x < 2147483648) : aw_MU (S := aw_S5) l yL_armature wsL_armature (aw_rm 4 90) D (aw_T yZ yI) [(o, .inr (0, [.int (zI (dv 0)), .int (zI (dv 1)), .int (zI (dv 2)), .int (zI (dv 3)), .int ty, .int px, .int pr, .int (zI (dv 7)), .int (zI (dv 8)), .ref oa, .ref ba])), (oa, .inl (yZ, 72, .inl (aw_f ob))), (ba, .inl (yI, 72, .inl g)), aw_Dr yI da dv, aw_Mr yI pa pf] [.ref o, .int (zI x), .ref da, .ref pa] (some (1)) (aw_p5) (fun u => aw_w5 yZ yI o oa ba da pa u) := by
  intro sz
  refine Met.ofW (cc := cL_armature) (maxL := 5) (ret := (some .boolean)) (by decide) rfl ?_
  intro p e s m args below meth c s₁ B hml hv
  obtain ⟨rfl, hsz, hP, hK, hD0⟩ := hv
  have hx := B.exec
  have hb := B.bytes
  have hr := B.returns
  have hts := atoms_spec (ws := wsL_armature) B.pre
  have hown : s.vm.findClass RL = some m.cls := findClass_of_methodNamed B.named
  have hlocks := B.notSynchronized
  subst hsz
  have hD := hD0.self (sz := s.heap.size)
  have hA : ∀ q : Nat, s.heap.size ≤ q → va_A [(o, .inr (0, [.int (zI (dv 0)), .int (zI (dv 1)), .int (zI (dv 2)), .int (zI (dv 3)), .int ty, .int px, .int pr, .int (zI (dv 7)), .int (zI (dv 8)), .ref oa, .ref ba])), (oa, .inl (yZ, 72, .inl (aw_f ob))), (ba, .inl (yI, 72, .inl g)), aw_Dr yI da dv, aw_Mr yI pa pf] s.heap.size q := fun q h => Or.inr h
  have hS : va_S (va_A [(o, .inr (0, [.int (zI (dv 0)), .int (zI (dv 1)), .int (zI (dv 2)), .int (zI (dv 3)), .int ty, .int px, .int pr, .int (zI (dv 7)), .int (zI (dv 8)), .ref oa, .ref ba])), (oa, .inl (yZ, 72, .inl (aw_f ob))), (ba, .inl (yI, 72, .inl g)), aw_Dr yI da dv, aw_Mr yI pa pf] s.heap.size) s.heap s.heap [] := va_S.rf
  have hl := lv_entry ([.ref o, .int (zI x), .ref da, .ref pa]) (n := 5) (Nat.le_of_ble_eq_true rfl)
  rw [lg_entry_eq]
  generalize (lg_sl ([.ref o, .int (zI x), .ref da, .ref pa]) ++ List.replicate (5 - (lg_sl ([.ref o, .int (zI x), .ref da, .ref pa])).length) Slot.unset).toArray = ls at hl ⊢
  have hl : lv_has ls 5 [(0, .ref o), (1, .int (zI x)), (2, .ref da), (3, .ref pa)] := hl
  refine lv_aload_n hx hb dL_armature_0 rfl (lv_at hl 2 rfl) ?_
  refine zb_iconst hx hb dL_armature_1 ?_
  refine zb_iconst hx hb dL_armature_2 ?_
  refine zb_iconst hx hb dL_armature_3 ?_
  refine lv_iload_n hx hb dL_armature_4 rfl (lv_at hl 1 rfl) ?_
  refine zb_iconst hx hb dL_armature_5 ?_
  refine zb_rem hx hb dL_armature_6 (by omega) (by omega) ?_
  refine zb_mul hx hb dL_armature_7 ?_
  refine zb_add hx hb dL_armature_8 ?_
  refine zb_nm (fun np e_np => ?_)
  have hnp : 2 ≤ np ∧ np ≤ 8 ∧ np % 2 = 0 := by omega
  refine aw_dst hx hb hK hP hD hS 3 1 rfl rfl 0 (by decide) dL_armature_9 (fun H locs hP hD hS => ?_)
  have hP : va_P D vwCl [(o, .inr (0, [.int (zI (dv 0)), .int (zI (dv 1)), .int (zI (dv 2)), .int (zI (dv 3)), .int ty, .int px, .int pr, .int (zI (dv 7)), .int (zI (dv 8)), .ref oa, .ref ba])), (oa, .inl (yZ, 72, .inl (aw_f ob))), (ba, .inl (yI, 72, .inl g)), aw_Dr yI da (aw_ud dv 0 np), aw_Mr yI pa pf] H := hP
  have hD : va_D _ [(o, .inr (0, [.int (zI (dv 0)), .int (zI (dv 1)), .int (zI (dv 2)), .int (zI (dv 3)), .int ty, .int px, .int pr, .int (zI (dv 7)), .int (zI (dv 8)), .ref oa, .ref ba])), (oa, .inl (yZ, 72, .inl (aw_f ob))), (ba, .inl (yI, 72, .inl g)), aw_Dr yI da (aw_ud dv 0 np), aw_Mr yI pa pf] := hD
  refine lv_aload_n hx hb dL_armature_10 rfl (lv_at hl 2 rfl) ?_
  refine zb_iconst hx hb dL_armature_11 ?_
  refine lv_aload_n hx hb dL_armature_12 rfl (lv_at hl 2 rfl) ?_
  refine zb_iconst hx hb dL_armature_13 ?_
  refine aw_dld hx hb hK hP 3 1 rfl rfl 0 (by decide) dL_armature_14 ?_
  refine zb_as np rfl ?_
  refine lv_iload_n hx hb dL_armature_15 rfl (lv_at hl 1 rfl) ?_
  refine zb_iconst hx hb dL_armature_16 ?_
  refine zb_div hx hb dL_armature_17 (by omega) (by omega) ?_
  refine zb_bipush hx hb dL_armature_18 (by decide) ?_
  refine lv_aload_n hx hb dL_armature_20 rfl (lv_at hl 2 rfl) ?_
  refine zb_iconst hx hb dL_armature_21 ?_
  refine aw_dld hx hb hK hP 3 1 rfl rfl 0 (by decide) dL_armature_22 ?_
  refine zb_as np rfl ?_
  refine zb_sub hx hb dL_armature_23 ?_
  refine zb_rem hx hb dL_armature_24 (by omega) (by omega) ?_
  refine zb_add hx hb dL_armature_25 ?_
  refine zb_nm (fun ns e_ns => ?_)
  have hns0 := aw_mod (x := x / 4) (n := 25 - np) (by omega)
  have hns : np ≤ ns ∧ ns ≤ 24 := by omega
  refine aw_dst hx hb hK hP hD hS 3 1 rfl rfl 1 (by decide) dL_armature_26 (fun H locs hP hD hS => ?_)
  have hP : va_P D vwCl [(o, .inr (0, [.int (zI (dv 0)), .int (zI (dv 1)), .int (zI (dv 2)), .int (zI (dv 3)), .int ty, .int px, .int pr, .int (zI (dv 7)), .int (zI (dv 8)), .ref oa, .ref ba])), (oa, .inl (yZ, 72, .inl (aw_f ob))), (ba, .inl (yI, 72, .inl g)), aw_Dr yI da (aw_ud (aw_ud dv 0 np) 1 ns), aw_Mr yI pa pf] H := hP
  have hD : va_D _ [(o, .inr (0, [.int (zI (dv 0)), .int (zI (dv 1)), .int (zI (dv 2)), .int (zI (dv 3)), .int ty, .int px, .int pr, .int (zI (dv 7)), .int (zI (dv 8)), .ref oa, .ref ba])), (oa, .inl (yZ, 72, .inl (aw_f ob))), (ba, .inl (yI, 72, .inl g)), aw_Dr yI da (aw_ud (aw_ud dv 0 np) 1 ns), aw_Mr yI pa pf] := hD
  refine lv_aload_n hx hb dL_armature_27 rfl (lv_at hl 2 rfl) ?_
  refine zb_iconst hx hb dL_armature_28 ?_
  refine zb_iconst hx hb dL_armature_29 ?_
  refine lv_iload_n hx hb dL_armature_30 rfl (lv_at hl 1 rfl) ?_
  refine zb_sipush hx hb dL_armature_31 (by decide) ?_
  refine zb_div hx hb dL_armature_34 (by omega) (by omega) ?_
  refine zb_iconst hx hb dL_armature_35 ?_
  refine zb_rem hx hb dL_armature_36 (by omega) (by omega) ?_
  refine zb_add hx hb dL_armature_37 ?_
  refine zb_nm (fun nk e_nk => ?_)
  have hnk : 1 ≤ nk ∧ nk ≤ 3 := by omega
  have hnn := aw_mul (x := ns) (y := nk) (a := 24) (b := 3) (by omega) (by omega) (by omega) (by omega)
  have hnn2 : ns * 1 ≤ ns * nk := Int.mul_le_mul_of_nonneg_left (by omega) (by omega)
  have hIn : aw_In np ns nk (ns * nk) 1 0 := ⟨by omega, by omega, by omega, by omega, by omega, by omega, rfl, by omega, by omega, by omega, by omega, by omega, by omega⟩
  refine aw_dst hx hb hK hP hD hS 3 1 rfl rfl 2 (by decide) dL_armature_38 (fun H locs hP hD hS => ?_)
  have hP : va_P D vwCl [(o, .inr (0, [.int (zI (dv 0)), .int (zI (dv 1)), .int (zI (dv 2)), .int (zI (dv 3)), .int ty, .int px, .int pr, .int (zI (dv 7)), .int (zI (dv 8)), .ref oa, .ref ba])), (oa, .inl (yZ, 72, .inl (aw_f ob))), (ba, .inl (yI, 72, .inl g)), aw_Dr yI da (aw_ud (aw_ud (aw_ud dv 0 np) 1 ns) 2 nk), aw_Mr yI pa pf] H := hP
  have hD : va_D _ [(o, .inr (0, [.int (zI (dv 0)), .int (zI (dv 1)), .int (zI (dv 2)), .int (zI (dv 3)), .int ty, .int px, .int pr, .int (zI (dv 7)), .int (zI (dv 8)), .ref oa, .ref ba])), (oa, .inl (yZ, 72, .inl (aw_f ob))), (ba, .inl (yI, 72, .inl g)), aw_Dr yI da (aw_ud (aw_ud (aw_ud dv 0 np) 1 ns) 2 nk), aw_Mr yI pa pf] := hD
  refine lv_aload_n hx hb dL_armature_39 rfl (lv_at hl 2 rfl) ?_
  refine zb_iconst hx hb dL_armature_40 ?_
  refine lv_aload_n hx hb dL_armature_41 rfl (lv_at hl 2 rfl) ?_
  refine zb_iconst hx hb dL_armature_42 ?_
  refine aw_dld hx hb hK hP 3 1 rfl rfl 1 (by decide) dL_armature_43 ?_
  refine zb_as ns rfl ?_
  refine lv_aload_n hx hb dL_armature_44 rfl (lv_at hl 2 rfl) ?_
  refine zb_iconst hx hb dL_armature_45 ?_
  refine aw_dld hx hb hK hP 3 1 rfl rfl 2 (by decide) dL_armature_46 ?_
  refine zb_as nk rfl ?_
  refine zb_mul hx hb dL_armature_47 ?_
  refine aw_dst hx hb hK hP hD hS 3 1 rfl rfl 3 (by decide) dL_armature_48 (fun H locs hP hD hS => ?_)
  have hP : va_P D vwCl [(o, .inr (0, [.int (zI (dv 0)), .int (zI (dv 1)), .int (zI (dv 2)), .int (zI (dv 3)), .int ty, .int px, .int pr, .int (zI (dv 7)), .int (zI (dv 8)), .ref oa, .ref ba])), (oa, .inl (yZ, 72, .inl (aw_f ob))), (ba, .inl (yI, 72, .inl g)), aw_Dr yI da (aw_ud (aw_ud (aw_ud (aw_ud dv 0 np) 1 ns) 2 nk) 3 (ns * nk)), aw_Mr yI pa pf] H := hP
  have hD : va_D _ [(o, .inr (0, [.int (zI (dv 0)), .int (zI (dv 1)), .int (zI (dv 2)), .int (zI (dv 3)), .int ty, .int px, .int pr, .int (zI (dv 7)), .int (zI (dv 8)), .ref oa, .ref ba])), (oa, .inl (yZ, 72, .inl (aw_f ob))), (ba, .inl (yI, 72, .inl g)), aw_Dr yI da (aw_ud (aw_ud (aw_ud (aw_ud dv 0 np) 1 ns) 2 nk) 3 (ns * nk)), aw_Mr yI pa pf] := hD
  refine lv_aload_n hx hb dL_armature_49 rfl (lv_at hl 2 rfl) ?_
  refine zb_iconst hx hb dL_armature_50 ?_
  refine zb_iconst hx hb dL_armature_51 ?_
  refine aw_dst hx hb hK hP hD hS 3 1 rfl rfl 4 (by decide) dL_armature_52 (fun H locs hP hD hS => ?_)
  have hP : va_P D vwCl [(o, .inr (0, [.int (zI (dv 0)), .int (zI (dv 1)), .int (zI (dv 2)), .int (zI (dv 3)), .int ty, .int px, .int pr, .int (zI (dv 7)), .int (zI (dv 8)), .ref oa, .ref ba])), (oa, .inl (yZ, 72, .inl (aw_f ob))), (ba, .inl (yI, 72, .inl g)), aw_Dr yI da (aw_ud (aw_ud (aw_ud (aw_ud (aw_ud dv 0 np) 1 ns) 2 nk) 3 (ns * nk)) 4 0), aw_Mr yI pa pf] H := hP
  have hD : va_D _ [(o, .inr (0, [.int (zI (dv 0)), .int (zI (dv 1)), .int (zI (dv 2)), .int (zI (dv 3)), .int ty, .int px, .int pr, .int (zI (dv 7)), .int (zI (dv 8)), .ref oa, .ref ba])), (oa, .inl (yZ, 72, .inl (aw_f ob))), (ba, .inl (yI, 72, .inl g)), aw_Dr yI da (aw_ud (aw_ud (aw_ud (aw_ud (aw_ud dv 0 np) 1 ns) 2 nk) 3 (ns * nk)) 4 0), aw_Mr yI pa pf] := hD
  refine lv_aload_n hx hb dL_armature_53 rfl (lv_at hl 2 rfl) ?_
  refine zb_iconst hx hb dL_armature_54 ?_
  refine zb_iconst hx hb dL_armature_55 ?_
  refine aw_dst hx hb hK hP hD hS 3 1 rfl rfl 5 (by decide) dL_armature_56 (fun H locs hP hD hS => ?_)
  have hP : va_P D vwCl [(o, .inr (0, [.int (zI (dv 0)), .int (zI (dv 1)), .int (zI (dv 2)), .int (zI (dv 3)), .int ty, .int px, .int pr, .int (zI (dv 7)), .int (zI (dv 8)), .ref oa, .ref ba])), (oa, .inl (yZ, 72, .inl (aw_f ob))), (ba, .inl (yI, 72, .inl g)), aw_Dr yI da (aw_ud (aw_ud (aw_ud (aw_ud (aw_ud (aw_ud dv 0 np) 1 ns) 2 nk) 3 (ns * nk)) 4 0) 5 1), aw_Mr yI pa pf] H := hP
  have hD : va_D _ [(o, .inr (0, [.int (zI (dv 0)), .int (zI (dv 1)), .int (zI (dv 2)), .int (zI (dv 3)), .int ty, .int px, .int pr, .int (zI (dv 7)), .int (zI (dv 8)), .ref oa, .ref ba])), (oa, .inl (yZ, 72, .inl (aw_f ob))), (ba, .inl (yI, 72, .inl g)), aw_Dr yI da (aw_ud (aw_ud (aw_ud (aw_ud (aw_ud (aw_ud dv 0 np) 1 ns) 2 nk) 3 (ns * nk)) 4 0) 5 1), aw_Mr yI pa pf] := hD
  refine lv_aload_n hx hb dL_armature_57 rfl (lv_at hl 2 rfl) ?_
  refine zb_bipush hx hb dL_armature_58 (by decide) ?_
  refine zb_iconst hx hb dL_armature_60 ?_
  refine aw_dst hx hb hK hP hD hS 3 1 rfl rfl 6 (by decide) dL_armature_61 (fun H locs hP hD hS => ?_)
  have hP : va_P D vwCl [(o, .inr (0, [.int (zI (dv 0)), .int (zI (dv 1)), .int (zI (dv 2)), .int (zI (dv 3)), .int ty, .int px, .int pr, .int (zI (dv 7)), .int (zI (dv 8)), .ref oa, .ref ba])), (oa, .inl (yZ, 72, .inl (aw_f ob))), (ba, .inl (yI, 72, .inl g)), aw_Dr yI da (aw_ud (aw_ud (aw_ud (aw_ud (aw_ud (aw_ud (aw_ud dv 0 np) 1 ns) 2 nk) 3 (ns * nk)) 4 0) 5 1) 6 1), aw_Mr yI pa pf] H := hP
  have hD : va_D _ [(o, .inr (0, [.int (zI (dv 0)), .int (zI (dv 1)), .int (zI (dv 2)), .int (zI (dv 3)), .int ty, .int px, .int pr, .int (zI (dv 7)), .int (zI (dv 8)), .ref oa, .ref ba])), (oa, .inl (yZ, 72, .inl (aw_f ob))), (ba, .inl (yI, 72, .inl g)), aw_Dr yI da (aw_ud (aw_ud (aw_ud (aw_ud (aw_ud (aw_ud (aw_ud dv 0 np) 1 ns) 2 nk) 3 (ns * nk)) 4 0) 5 1) 6 1), aw_Mr yI pa pf] := hD
  refine lv_aload_n hx hb dL_armature_62 rfl (lv_at hl 2 rfl) ?_
  refine zb_bipush hx hb dL_armature_63 (by decide) ?_
  refine zb_iconst hx hb dL_armature_65 ?_
  refine aw_dst hx hb hK hP hD hS 3 1 rfl rfl 7 (by decide) dL_armature_66 (fun H locs hP hD hS => ?_)
  have hP : va_P D vwCl [(o, .inr (0, [.int (zI (dv 0)), .int (zI (dv 1)), .int (zI (dv 2)), .int (zI (dv 3)), .int ty, .int px, .int pr, .int (zI (dv 7)), .int (zI (dv 8)), .ref oa, .ref ba])), (oa, .inl (yZ, 72, .inl (aw_f ob))), (ba, .inl (yI, 72, .inl g)), aw_Dr yI da (aw_ud (aw_ud (aw_ud (aw_ud (aw_ud (aw_ud (aw_ud (aw_ud dv 0 np) 1 ns) 2 nk) 3 (ns * nk)) 4 0) 5 1) 6 1) 7 1), aw_Mr yI pa pf] H := hP
  have hD : va_D _ [(o, .inr (0, [.int (zI (dv 0)), .int (zI (dv 1)), .int (zI (dv 2)), .int (zI (dv 3)), .int ty, .int px, .int pr, .int (zI (dv 7)), .int (zI (dv 8)), .ref oa, .ref ba])), (oa, .inl (yZ, 72, .inl (aw_f ob))), (ba, .inl (yI, 72, .inl g)), aw_Dr yI da (aw_ud (aw_ud (aw_ud (aw_ud (aw_ud (aw_ud (aw_ud (aw_ud dv 0 np) 1 ns) 2 nk) 3 (ns * nk)) 4 0) 5 1) 6 1) 7 1), aw_Mr yI pa pf] := hD
  refine lv_aload_n hx hb dL_armature_67 rfl (lv_at hl 2 rfl) ?_
  refine zb_bipush hx hb dL_armature_68 (by decide) ?_
  refine zb_iconst hx hb dL_armature_70 ?_
  refine aw_dst hx hb hK hP hD hS 3 1 rfl rfl 8 (by decide) dL_armature_71 (fun H locs hP hD hS => ?_)
  have hP : va_P D vwCl [(o, .inr (0, [.int (zI (dv 0)), .int (zI (dv 1)), .int (zI (dv 2)), .int (zI (dv 3)), .int ty, .int px, .int pr, .int (zI (dv 7)), .int (zI (dv 8)), .ref oa, .ref ba])), (oa, .inl (yZ, 72, .inl (aw_f ob))), (ba, .inl (yI, 72, .inl g)), aw_Dr yI da (aw_ud (aw_ud (aw_ud (aw_ud (aw_ud (aw_ud (aw_ud (aw_ud (aw_ud dv 0 np) 1 ns) 2 nk) 3 (ns * nk)) 4 0) 5 1) 6 1) 7 1) 8 0), aw_Mr yI pa pf] H := hP
  have hD : va_D _ [(o, .inr (0, [.int (zI (dv 0)), .int (zI (dv 1)), .int (zI (dv 2)), .int (zI (dv 3)), .int ty, .int px, .int pr, .int (zI (dv 7)), .int (zI (dv 8)), .ref oa, .ref ba])), (oa, .inl (yZ, 72, .inl (aw_f ob))), (ba, .inl (yI, 72, .inl g)), aw_Dr yI da (aw_ud (aw_ud (aw_ud (aw_ud (aw_ud (aw_ud (aw_ud (aw_ud (aw_ud dv 0 np) 1 ns) 2 nk) 3 (ns * nk)) 4 0) 5 1) 6 1) 7 1) 8 0), aw_Mr yI pa pf] := hD
  refine zb_iconst hx hb dL_armature_72 ?_
  refine lv_istore (lv' := [(4, .int (zI 0)), (0, .ref o), (1, .int (zI x)), (2, .ref da), (3, .ref pa)]) hx hb dL_armature_73 hl (by decide) rfl (fun ls hl => ?_)
  refine zb_lpm (nL := 5) (τ := Nat → Int32) (fun z pf2 => 0 ≤ z ∧ z ≤ 3 ∧ ∀ j : Nat, (j : Int) < z → pf2 j = zI 0) (fun z => [(4, .int (zI z)), (3, .ref pa), (2, .ref da), (1, .int (zI x)), (0, .ref o)]) (fun pf2 => [(o, .inr (0, [.int (zI (dv 0)), .int (zI (dv 1)), .int (zI (dv 2)), .int (zI (dv 3)), .int ty, .int px, .int pr, .int (zI (dv 7)), .int (zI (dv 8)), .ref oa, .ref ba])), (oa, .inl (yZ, 72, .inl (aw_f ob))), (ba, .inl (yI, 72, .inl g)), aw_Dr yI da (aw_ud (aw_ud (aw_ud (aw_ud (aw_ud (aw_ud (aw_ud (aw_ud (aw_ud dv 0 np) 1 ns) 2 nk) 3 (ns * nk)) 4 0) 5 1) 6 1) 7 1) 8 0), aw_Mr yI pa pf2]) (fun z => 3 - z) 0 pf ⟨by omega, by omega, fun j hj => by omega⟩ (lv_sub hl [0, 4, 3, 2, 1] rfl) hP hD hS ?_
  intro z pf2 H locs ls hJ75 hl hP hD hS ih75
  have hJ75 : 0 ≤ z ∧ z ≤ 3 ∧ ∀ j : Nat, (j : Int) < z → pf2 j = zI 0 := hJ75
  have hl : lv_has ls 5 [(4, .int (zI z)), (3, .ref pa), (2, .ref da), (1, .int (zI x)), (0, .ref o)] := hl
  have hP : va_P D vwCl [(o, .inr (0, [.int (zI (dv 0)), .int (zI (dv 1)), .int (zI (dv 2)), .int (zI (dv 3)), .int ty, .int px, .int pr, .int (zI (dv 7)), .int (zI (dv 8)), .ref oa, .ref ba])), (oa, .inl (yZ, 72, .inl (aw_f ob))), (ba, .inl (yI, 72, .inl g)), aw_Dr yI da (aw_ud (aw_ud (aw_ud (aw_ud (aw_ud (aw_ud (aw_ud (aw_ud (aw_ud dv 0 np) 1 ns) 2 nk) 3 (ns * nk)) 4 0) 5 1) 6 1) 7 1) 8 0), aw_Mr yI pa pf2] H := hP
  have hD : va_D _ [(o, .inr (0, [.int (zI (dv 0)), .int (zI (dv 1)), .int (zI (dv 2)), .int (zI (dv 3)), .int ty, .int px, .int pr, .int (zI (dv 7)), .int (zI (dv 8)), .ref oa, .ref ba])), (oa, .inl (yZ, 72, .inl (aw_f ob))), (ba, .inl (yI, 72, .inl g)), aw_Dr yI da (aw_ud (aw_ud (aw_ud (aw_ud (aw_ud (aw_ud (aw_ud (aw_ud (aw_ud dv 0 np) 1 ns) 2 nk) 3 (ns * nk)) 4 0) 5 1) 6 1) 7 1) 8 0), aw_Mr yI pa pf2] := hD
  refine lv_iload hx hb dL_armature_75 (lv_at hl 0 rfl) ?_
  refine zb_iconst hx hb dL_armature_77 ?_
  refine zb_cge (tgt := 92) hx hb dL_armature_78 (by decide) (by omega) (by omega) (fun c78 => ?_) (fun c78 => ?_)
  · skip
    have hpf : ∀ j : Nat, j < 3 → pf2 j = zI 0 := fun j hj => hJ75.2.2 j (by omega)
    refine lv_aload_n hx hb dL_armature_92 rfl (lv_at hl 4 rfl) ?_
    refine zb_iconst hx hb dL_armature_93 ?_
    refine zb_bipush hx hb dL_armature_94 (by decide) ?_
    refine zb_iconst hx hb dL_armature_96 ?_
    refine aw_callV (As := [.int (zI 3), .int (zI 12), .int (zI 1)]) (rest := []) ⟨hx, hb, hml, hown, hts⟩ (k_setArmature_no (a := 3) (b := 12) (k := 1) ⟨by omega, by omega⟩ ⟨by omega, by omega⟩ ⟨by omega, by omega⟩ (by omega)) (cwV 3 hts gL_armature_X0_setArmature rfl rfl rfl (by decide +kernel) ⟨Nat.le_of_ble_eq_true rfl, Nat.le_of_ble_eq_true rfl⟩) (hP.sub (ws' := [(o, .inr (0, [.int (zI (dv 0)), .int (zI (dv 1)), .int (zI (dv 2)), .int (zI (dv 3)), .int ty, .int px, .int pr, .int (zI (dv 7)), .int (zI (dv 8)), .ref oa, .ref ba])), (oa, .inl (yZ, 72, .inl (aw_f ob))), (ba, .inl (yI, 72, .inl g))]) [0, 1, 2] rfl) hK rfl rfl rfl hl.1 rfl (Nat.le_of_ble_eq_true rfl) dL_armature_97 ⟨Nat.zero_le _, Nat.zero_le _⟩ ?_
    refine zb_sipush hx hb dL_armature_100 (by decide) ?_
    refine zb_cne (tgt := 213) hx hb dL_armature_103 (by decide) (by omega) (by omega) (fun c103 => absurd c103 (by omega)) (fun c103 => ?_)
    refine lv_aload_n hx hb dL_armature_106 rfl (lv_at hl 4 rfl) ?_
    refine zb_bipush hx hb dL_armature_107 (by decide) ?_
    refine zb_bipush hx hb dL_armature_109 (by decide) ?_
    refine zb_iconst hx hb dL_armature_111 ?_
    refine aw_callV (As := [.int (zI 10), .int (zI 12), .int (zI 1)]) (rest := []) ⟨hx, hb, hml, hown, hts⟩ (k_setArmature_no (a := 10) (b := 12) (k := 1) ⟨by omega, by omega⟩ ⟨by omega, by omega⟩ ⟨by omega, by omega⟩ (by omega)) (cwV 3 hts gL_armature_X0_setArmature rfl rfl rfl (by decide +kernel) ⟨Nat.le_of_ble_eq_true rfl, Nat.le_of_ble_eq_true rfl⟩) (hP.sub (ws' := [(o, .inr (0, [.int (zI (dv 0)), .int (zI (dv 1)), .int (zI (dv 2)), .int (zI (dv 3)), .int ty, .int px, .int pr, .int (zI (dv 7)), .int (zI (dv 8)), .ref oa, .ref ba])), (oa, .inl (yZ, 72, .inl (aw_f ob))), (ba, .inl (yI, 72, .inl g))]) [0, 1, 2] rfl) hK rfl rfl rfl hl.1 rfl (Nat.le_of_ble_eq_true rfl) dL_armature_112 ⟨Nat.zero_le _, Nat.zero_le _⟩ ?_
    refine zb_sipush hx hb dL_armature_115 (by decide) ?_
    refine zb_cne (tgt := 213) hx hb dL_armature_118 (by decide) (by omega) (by omega) (fun c118 => absurd c118 (by omega)) (fun c118 => ?_)
    refine lv_aload_n hx hb dL_armature_121 rfl (lv_at hl 4 rfl) ?_
    refine lv_aload_n hx hb dL_armature_122 rfl (lv_at hl 2 rfl) ?_
    refine zb_iconst hx hb dL_armature_123 ?_
    refine aw_dld hx hb hK hP 3 1 rfl rfl 0 (by decide) dL_armature_124 ?_
    refine zb_as np rfl ?_
    refine lv_aload_n hx hb dL_armature_125 rfl (lv_at hl 2 rfl) ?_
    refine zb_iconst hx hb dL_armature_126 ?_
    refine aw_dld hx hb hK hP 3 1 rfl rfl 0 (by decide) dL_armature_127 ?_
    refine zb_as np rfl ?_
    refine zb_iconst hx hb dL_armature_128 ?_
    refine zb_sub hx hb dL_armature_129 ?_
    refine zb_iconst hx hb dL_armature_130 ?_
    refine aw_callV (As := [.int (zI np), .int (zI (np - 1)), .int (zI 1)]) (rest := []) ⟨hx, hb, hml, hown, hts⟩ (k_setArmature_no (a := np) (b := np - 1) (k := 1) ⟨by omega, by omega⟩ ⟨by omega, by omega⟩ ⟨by omega, by omega⟩ (by omega)) (cwV 3 hts gL_armature_X0_setArmature rfl rfl rfl (by decide +kernel) ⟨Nat.le_of_ble_eq_true rfl, Nat.le_of_ble_eq_true rfl⟩) (hP.sub (ws' := [(o, .inr (0, [.int (zI (dv 0)), .int (zI (dv 1)), .int (zI (dv 2)), .int (zI (dv 3)), .int ty, .int px, .int pr, .int (zI (dv 7)), .int (zI (dv 8)), .ref oa, .ref ba])), (oa, .inl (yZ, 72, .inl (aw_f ob))), (ba, .inl (yI, 72, .inl g))]) [0, 1, 2] rfl) hK rfl rfl rfl hl.1 rfl (Nat.le_of_ble_eq_true rfl) dL_armature_131 ⟨Nat.zero_le _, Nat.zero_le _⟩ ?_
    refine zb_sipush hx hb dL_armature_134 (by decide) ?_
    refine zb_cne (tgt := 213) hx hb dL_armature_137 (by decide) (by omega) (by omega) (fun c137 => absurd c137 (by omega)) (fun c137 => ?_)
    refine lv_aload_n hx hb dL_armature_140 rfl (lv_at hl 4 rfl) ?_
    refine lv_aload_n hx hb dL_armature_141 rfl (lv_at hl 2 rfl) ?_
    refine zb_iconst hx hb dL_armature_142 ?_
    refine aw_dld hx hb hK hP 3 1 rfl rfl 0 (by decide) dL_armature_143 ?_
    refine zb_as np rfl ?_
    refine zb_bipush hx hb dL_armature_144 (by decide) ?_
    refine zb_iconst hx hb dL_armature_146 ?_
    refine aw_callV (As := [.int (zI np), .int (zI 25), .int (zI 1)]) (rest := []) ⟨hx, hb, hml, hown, hts⟩ (k_setArmature_no (a := np) (b := 25) (k := 1) ⟨by omega, by omega⟩ ⟨by omega, by omega⟩ ⟨by omega, by omega⟩ (by omega)) (cwV 3 hts gL_armature_X0_setArmature rfl rfl rfl (by decide +kernel) ⟨Nat.le_of_ble_eq_true rfl, Nat.le_of_ble_eq_true rfl⟩) (hP.sub (ws' := [(o, .inr (0, [.int (zI (dv 0)), .int (zI (dv 1)), .int (zI (dv 2)), .int (zI (dv 3)), .int ty, .int px, .int pr, .int (zI (dv 7)), .int (zI (dv 8)), .ref oa, .ref ba])), (oa, .inl (yZ, 72, .inl (aw_f ob))), (ba, .inl (yI, 72, .inl g))]) [0, 1, 2] rfl) hK rfl rfl rfl hl.1 rfl (Nat.le_of_ble_eq_true rfl) dL_armature_147 ⟨Nat.zero_le _, Nat.zero_le _⟩ ?_
    refine zb_sipush hx hb dL_armature_150 (by decide) ?_
    refine zb_cne (tgt := 213) hx hb dL_armature_153 (by decide) (by omega) (by omega) (fun c153 => absurd c153 (by omega)) (fun c153 => ?_)
    refine lv_aload_n hx hb dL_armature_156 rfl (lv_at hl 4 rfl) ?_
    refine lv_aload_n hx hb dL_armature_157 rfl (lv_at hl 2 rfl) ?_
    refine zb_iconst hx hb dL_armature_158 ?_
    refine aw_dld hx hb hK hP 3 1 rfl rfl 0 (by decide) dL_armature_159 ?_
    refine zb_as np rfl ?_
    refine lv_aload_n hx hb dL_armature_160 rfl (lv_at hl 2 rfl) ?_
    refine zb_iconst hx hb dL_armature_161 ?_
    refine aw_dld hx hb hK hP 3 1 rfl rfl 1 (by decide) dL_armature_162 ?_
    refine zb_as ns rfl ?_
    refine zb_iconst hx hb dL_armature_163 ?_
    refine aw_callV (As := [.int (zI np), .int (zI ns), .int (zI 0)]) (rest := []) ⟨hx, hb, hml, hown, hts⟩ (k_setArmature_no (a := np) (b := ns) (k := 0) ⟨by omega, by omega⟩ ⟨by omega, by omega⟩ ⟨by omega, by omega⟩ (by omega)) (cwV 3 hts gL_armature_X0_setArmature rfl rfl rfl (by decide +kernel) ⟨Nat.le_of_ble_eq_true rfl, Nat.le_of_ble_eq_true rfl⟩) (hP.sub (ws' := [(o, .inr (0, [.int (zI (dv 0)), .int (zI (dv 1)), .int (zI (dv 2)), .int (zI (dv 3)), .int ty, .int px, .int pr, .int (zI (dv 7)), .int (zI (dv 8)), .ref oa, .ref ba])), (oa, .inl (yZ, 72, .inl (aw_f ob))), (ba, .inl (yI, 72, .inl g))]) [0, 1, 2] rfl) hK rfl rfl rfl hl.1 rfl (Nat.le_of_ble_eq_true rfl) dL_armature_164 ⟨Nat.zero_le _, Nat.zero_le _⟩ ?_
    refine zb_sipush hx hb dL_armature_167 (by decide) ?_
    refine zb_cne (tgt := 213) hx hb dL_armature_170 (by decide) (by omega) (by omega) (fun c170 => absurd c170 (by omega)) (fun c170 => ?_)
    refine lv_aload_n hx hb dL_armature_173 rfl (lv_at hl 4 rfl) ?_
    refine lv_aload_n hx hb dL_armature_174 rfl (lv_at hl 2 rfl) ?_
    refine zb_iconst hx hb dL_armature_175 ?_
    refine aw_dld hx hb hK hP 3 1 rfl rfl 0 (by decide) dL_armature_176 ?_
    refine zb_as np rfl ?_
    refine lv_aload_n hx hb dL_armature_177 rfl (lv_at hl 2 rfl) ?_
    refine zb_iconst hx hb dL_armature_178 ?_
    refine aw_dld hx hb hK hP 3 1 rfl rfl 1 (by decide) dL_armature_179 ?_
    refine zb_as ns rfl ?_
    refine zb_iconst hx hb dL_armature_180 ?_
    refine aw_callV (As := [.int (zI np), .int (zI ns), .int (zI 4)]) (rest := []) ⟨hx, hb, hml, hown, hts⟩ (k_setArmature_no (a := np) (b := ns) (k := 4) ⟨by omega, by omega⟩ ⟨by omega, by omega⟩ ⟨by omega, by omega⟩ (by omega)) (cwV 3 hts gL_armature_X0_setArmature rfl rfl rfl (by decide +kernel) ⟨Nat.le_of_ble_eq_true rfl, Nat.le_of_ble_eq_true rfl⟩) (hP.sub (ws' := [(o, .inr (0, [.int (zI (dv 0)), .int (zI (dv 1)), .int (zI (dv 2)), .int (zI (dv 3)), .int ty, .int px, .int pr, .int (zI (dv 7)), .int (zI (dv 8)), .ref oa, .ref ba])), (oa, .inl (yZ, 72, .inl (aw_f ob))), (ba, .inl (yI, 72, .inl g))]) [0, 1, 2] rfl) hK rfl rfl rfl hl.1 rfl (Nat.le_of_ble_eq_true rfl) dL_armature_181 ⟨Nat.zero_le _, Nat.zero_le _⟩ ?_
    refine zb_sipush hx hb dL_armature_184 (by decide) ?_
    refine zb_cne (tgt := 213) hx hb dL_armature_187 (by decide) (by omega) (by omega) (fun c187 => absurd c187 (by omega)) (fun c187 => ?_)
    refine lv_aload_n hx hb dL_armature_190 rfl (lv_at hl 4 rfl) ?_
    refine lv_aload_n hx hb dL_armature_191 rfl (lv_at hl 2 rfl) ?_
    refine zb_iconst hx hb dL_armature_192 ?_
    refine aw_dld hx hb hK hP 3 1 rfl rfl 0 (by decide) dL_armature_193 ?_
    refine zb_as np rfl ?_
    refine lv_aload_n hx hb dL_armature_194 rfl (lv_at hl 2 rfl) ?_
    refine zb_iconst hx hb dL_armature_195 ?_
    refine aw_dld hx hb hK hP 3 1 rfl rfl 1 (by decide) dL_armature_196 ?_
    refine zb_as ns rfl ?_
    refine lv_aload_n hx hb dL_armature_197 rfl (lv_at hl 2 rfl) ?_
    refine zb_iconst hx hb dL_armature_198 ?_
    refine aw_dld hx hb hK hP 3 1 rfl rfl 2 (by decide) dL_armature_199 ?_
    refine zb_as nk rfl ?_
    refine aw_callMV (As := [.int (zI np), .int (zI ns), .int (zI nk)]) (rest := []) (wc := [(o, .inr (0, [.int (zI (dv 0)), .int (zI (dv 1)), .int (zI (dv 2)), .int (zI (dv 3)), .int ty, .int px, .int pr, .int (zI (dv 7)), .int (zI (dv 8)), .ref oa, .ref ba])), (oa, .inl (yZ, 72, .inl (aw_f ob))), (ba, .inl (yI, 72, .inl g))]) (wr := [aw_Dr yI da (aw_ud (aw_ud (aw_ud (aw_ud (aw_ud (aw_ud (aw_ud (aw_ud (aw_ud dv 0 np) 1 ns) 2 nk) 3 (ns * nk)) 4 0) 5 1) 6 1) 7 1) 8 0), aw_Mr yI pa pf2]) (ws2 := fun u => [(o, .inr (0, [.int (zI np), .int (zI ns), .int (zI nk), .int (zI (ns * nk)), .int (zI 0), .int (zI 1), .int (zI 1), .int (zI 1), .int (zI 0), .ref oa, .ref ba])), (oa, .inl (yZ, 72, .inl (aw_f (u.1)))), (ba, .inl (yI, 72, .inl (u.2))), aw_Dr yI da (aw_ud (aw_ud (aw_ud (aw_ud (aw_ud (aw_ud (aw_ud (aw_ud (aw_ud dv 0 np) 1 ns) 2 nk) 3 (ns * nk)) 4 0) 5 1) 6 1) 7 1) 8 0), aw_Mr yI pa pf2]) ⟨hx, hb, hml, hown, hts⟩ (k_setArmature (a := np) (b := ns) (k := nk) ⟨by omega, by omega⟩ (by omega) ⟨by omega, by omega⟩ ⟨by omega, by omega⟩) (cwV 3 hts gL_armature_X0_setArmature rfl rfl rfl (by decide +kernel) ⟨Nat.le_of_ble_eq_true rfl, Nat.le_of_ble_eq_true rfl⟩) hP hD hK hS hA rfl rfl [0, 1, 2] [3, 4] rfl rfl (by decide) (by decide) (by decide) [2, 3, 4, 0, 1] (by decide) (fun _ => rfl) rfl hl.1 rfl (Nat.le_of_ble_eq_true rfl) dL_armature_200 ⟨Nat.zero_le _, Nat.zero_le _⟩ (fun u H locs hu hP hD hS => ?_)
    obtain ⟨ob2, g2⟩ := u
    have hu : ∀ z : Int, 0 ≤ z → z < 72 → ob2 z = false := hu
    have hP : va_P D vwCl [(o, .inr (0, [.int (zI np), .int (zI ns), .int (zI nk), .int (zI (ns * nk)), .int (zI 0), .int (zI 1), .int (zI 1), .int (zI 1), .int (zI 0), .ref oa, .ref ba])), (oa, .inl (yZ, 72, .inl (aw_f ob2))), (ba, .inl (yI, 72, .inl g2)), aw_Dr yI da (aw_ud (aw_ud (aw_ud (aw_ud (aw_ud (aw_ud (aw_ud (aw_ud (aw_ud dv 0 np) 1 ns) 2 nk) 3 (ns * nk)) 4 0) 5 1) 6 1) 7 1) 8 0), aw_Mr yI pa pf2] H := hP
    have hD : va_D _ [(o, .inr (0, [.int (zI np), .int (zI ns), .int (zI nk), .int (zI (ns * nk)), .int (zI 0), .int (zI 1), .int (zI 1), .int (zI 1), .int (zI 0), .ref oa, .ref ba])), (oa, .inl (yZ, 72, .inl (aw_f ob2))), (ba, .inl (yI, 72, .inl g2)), aw_Dr yI da (aw_ud (aw_ud (aw_ud (aw_ud (aw_ud (aw_ud (aw_ud (aw_ud (aw_ud dv 0 np) 1 ns) 2 nk) 3 (ns * nk)) 4 0) 5 1) 6 1) 7 1) 8 0), aw_Mr yI pa pf2] := hD
    refine W.eq (g2 := F0 m 203 ls [.int (zI (ns * nk))]) rfl ?_
    refine lv_aload_n hx hb dL_armature_203 rfl (lv_at hl 2 rfl) ?_
    refine zb_iconst hx hb dL_armature_204 ?_
    refine aw_dld hx hb hK hP 3 1 rfl rfl 3 (by decide) dL_armature_205 ?_
    refine zb_as (ns * nk) rfl ?_
    refine zb_cne (tgt := 213) hx hb dL_armature_206 (by decide) (by omega) (by omega) (fun c206 => absurd c206 (by omega)) (fun c206 => ?_)
    refine zb_iconst hx hb dL_armature_209 ?_
    refine lv_goto (tgt := 214) hx hb dL_armature_210 (by decide) ?_
    exact aw_zretM (z := 1) (post := aw_p5) (ws' := fun u => aw_w5 yZ yI o oa ba da pa u) ((aw_ud (aw_ud (aw_ud (aw_ud (aw_ud (aw_ud (aw_ud (aw_ud (aw_ud dv 0 np) 1 ns) 2 nk) 3 (ns * nk)) 4 0) 5 1) 6 1) 7 1) 8 0, pf2, ob2, (zI 0, zI 1, zI 1), g2) : aw_S5) hx hb hr hlocks dL_armature_214 (by omega) (by first | rfl | omega) ⟨hIn, aw_OB_0 hpf hu⟩ hP hK hD hS
  · skip
    refine lv_aload_n hx hb dL_armature_81 rfl (lv_at hl 1 rfl) ?_
    refine lv_iload hx hb dL_armature_82 (lv_at hl 0 rfl) ?_
    refine zb_iconst hx hb dL_armature_84 ?_
    refine va_iast hx hb hK hP hD hS 4 1 rfl rfl (zI_in (by omega) (by omega) (by omega)) dL_armature_85 (fun H locs hP hD hS => ?_)
    have hP : va_P D vwCl [(o, .inr (0, [.int (zI (dv 0)), .int (zI (dv 1)), .int (zI (dv 2)), .int (zI (dv 3)), .int ty, .int px, .int pr, .int (zI (dv 7)), .int (zI (dv 8)), .ref oa, .ref ba])), (oa, .inl (yZ, 72, .inl (aw_f ob))), (ba, .inl (yI, 72, .inl g)), aw_Dr yI da (aw_ud (aw_ud (aw_ud (aw_ud (aw_ud (aw_ud (aw_ud (aw_ud (aw_ud dv 0 np) 1 ns) 2 nk) 3 (ns * nk)) 4 0) 5 1) 6 1) 7 1) 8 0), aw_Mr yI pa (upd pf2 (zI z).toNatClampNeg (zI 0))] H := hP
    have hD : va_D _ [(o, .inr (0, [.int (zI (dv 0)), .int (zI (dv 1)), .int (zI (dv 2)), .int (zI (dv 3)), .int ty, .int px, .int pr, .int (zI (dv 7)), .int (zI (dv 8)), .ref oa, .ref ba])), (oa, .inl (yZ, 72, .inl (aw_f ob))), (ba, .inl (yI, 72, .inl g)), aw_Dr yI da (aw_ud (aw_ud (aw_ud (aw_ud (aw_ud (aw_ud (aw_ud (aw_ud (aw_ud dv 0 np) 1 ns) 2 nk) 3 (ns * nk)) 4 0) 5 1) 6 1) 7 1) 8 0), aw_Mr yI pa (upd pf2 (zI z).toNatClampNeg (zI 0))] := hD
    refine zb_iinc (lv' := [(4, .int (zI (z + 1))), (3, .ref pa), (2, .ref da), (1, .int (zI x)), (0, .ref o)]) hx hb dL_armature_86 hl (k := 0) rfl (by decide) rfl (fun ls hl => ?_)
    refine lv_goto (tgt := 75) hx hb dL_armature_89 (by decide) ?_
    exact ih75 (z + 1) (upd pf2 (zI z).toNatClampNeg (zI 0)) H locs ls ⟨by omega, by omega, fun j hj => by unfold upd; rw [zI_clamp (by omega)]; by_cases q : j = z.toNat; rw [if_pos q]; rw [if_neg q]; exact hJ75.2.2 j (by omega)⟩ (by omega) (lv_sub hl [0, 1, 2, 3, 4] rfl) hP hD hS
set_option maxHeartbeats 4000000 in
set_option maxRecDepth 100000 in
/-- the law's winding: true -/
theorem k_winding (hI : aw_In (dv 0) (dv 1) (dv 2) (dv 3) (dv 7) (dv 8)) (hO : aw_OB pf ob) {x : Int} (hx0 : 0 ≤ x ∧ x < 2147483648) : aw_MU (S := aw_S5) l yL_winding wsL_winding (aw_rm 3 67) D (aw_T yZ yI) [(o, .inr (0, [.int (zI (dv 0)), .int (zI (dv 1)), .int (zI (dv 2)), .int (zI (dv 3)), .int ty, .int px, .int pr, .int (zI (dv 7)), .int (zI (dv 8)), .ref oa, .ref ba])), (oa, .inl (yZ, 72, .inl (aw_f ob))), (ba, .inl (yI, 72, .inl g)), aw_Dr yI da dv, aw_Mr yI pa pf] [.ref o, .int (zI x), .ref da] (some (1)) (aw_p5) (fun u => aw_w5 yZ yI o oa ba da pa u) := by
  intro sz
  refine Met.ofW (cc := cL_winding) (maxL := 8) (ret := (some .boolean)) (by decide) rfl ?_
  intro p e s m args below meth c s₁ B hml hv
  obtain ⟨rfl, hsz, hP, hK, hD0⟩ := hv
  have hx := B.exec
  have hb := B.bytes
  have hr := B.returns
  have hts := atoms_spec (ws := wsL_winding) B.pre
  have hown : s.vm.findClass RL = some m.cls := findClass_of_methodNamed B.named
  have hlocks := B.notSynchronized
  subst hsz
  have hD := hD0.self (sz := s.heap.size)
  have hA : ∀ q : Nat, s.heap.size ≤ q → va_A [(o, .inr (0, [.int (zI (dv 0)), .int (zI (dv 1)), .int (zI (dv 2)), .int (zI (dv 3)), .int ty, .int px, .int pr, .int (zI (dv 7)), .int (zI (dv 8)), .ref oa, .ref ba])), (oa, .inl (yZ, 72, .inl (aw_f ob))), (ba, .inl (yI, 72, .inl g)), aw_Dr yI da dv, aw_Mr yI pa pf] s.heap.size q := fun q h => Or.inr h
  have hS : va_S (va_A [(o, .inr (0, [.int (zI (dv 0)), .int (zI (dv 1)), .int (zI (dv 2)), .int (zI (dv 3)), .int ty, .int px, .int pr, .int (zI (dv 7)), .int (zI (dv 8)), .ref oa, .ref ba])), (oa, .inl (yZ, 72, .inl (aw_f ob))), (ba, .inl (yI, 72, .inl g)), aw_Dr yI da dv, aw_Mr yI pa pf] s.heap.size) s.heap s.heap [] := va_S.rf
  have hl := lv_entry ([.ref o, .int (zI x), .ref da]) (n := 8) (Nat.le_of_ble_eq_true rfl)
  rw [lg_entry_eq]
  generalize (lg_sl ([.ref o, .int (zI x), .ref da]) ++ List.replicate (8 - (lg_sl ([.ref o, .int (zI x), .ref da])).length) Slot.unset).toArray = ls at hl ⊢
  have hl : lv_has ls 8 [(0, .ref o), (1, .int (zI x)), (2, .ref da)] := hl
  obtain ⟨i1, i2, i3, i4, i5, i6, i7, i8, i9, i10, i11, i12, i13⟩ := id hI
  refine lv_iload_n hx hb dL_winding_0 rfl (lv_at hl 1 rfl) ?_
  refine zb_iconst hx hb dL_winding_1 ?_
  refine zb_rem hx hb dL_winding_2 (by omega) (by omega) ?_
  refine zb_nm (fun t e_t => ?_)
  have ht : 0 ≤ t ∧ t ≤ 1 := by omega
  refine lv_istore_n (lv' := [(3, .int (zI t)), (0, .ref o), (1, .int (zI x)), (2, .ref da)]) hx hb dL_winding_3 rfl hl (by decide) rfl (fun ls hl => ?_)
  refine zb_iconst hx hb dL_winding_4 ?_
  refine lv_iload_n hx hb dL_winding_5 rfl (lv_at hl 2 rfl) ?_
  refine zb_iconst hx hb dL_winding_6 ?_
  refine zb_div hx hb dL_winding_7 (by omega) (by omega) ?_
  refine zb_iconst hx hb dL_winding_8 ?_
  refine zb_rem hx hb dL_winding_9 (by omega) (by omega) ?_
  refine zb_add hx hb dL_winding_10 ?_
  refine zb_nm (fun k e_k => ?_)
  have hk : 1 ≤ k ∧ k ≤ 3 := by omega
  refine lv_istore (lv' := [(4, .int (zI k)), (3, .int (zI t)), (0, .ref o), (1, .int (zI x)), (2, .ref da)]) hx hb dL_winding_11 hl (by decide) rfl (fun ls hl => ?_)
  refine lv_iload_n hx hb dL_winding_13 rfl (lv_at hl 3 rfl) ?_
  refine zb_bipush hx hb dL_winding_14 (by decide) ?_
  refine zb_div hx hb dL_winding_16 (by omega) (by omega) ?_
  refine zb_iconst hx hb dL_winding_17 ?_
  refine zb_rem hx hb dL_winding_18 (by omega) (by omega) ?_
  refine zb_nm (fun b e_b => ?_)
  have hb0 : 0 ≤ b ∧ b ≤ 1 := by omega
  refine lv_istore (lv' := [(5, .int (zI b)), (4, .int (zI k)), (3, .int (zI t)), (0, .ref o), (1, .int (zI x)), (2, .ref da)]) hx hb dL_winding_19 hl (by decide) rfl (fun ls hl => ?_)
  refine lv_iload hx hb dL_winding_21 (lv_at hl 0 rfl) ?_
  refine zb_iconst hx hb dL_winding_23 ?_
  refine zb_join (fun h => b = 1 ∧ h = k ∨ b = 0 ∧ h = -k) (pcj := 35) (lj := ls) (rj := []) (fun h hh => ?_) (fun hj35 => ?_)
  rotate_left
  · skip
    refine zb_cne (tgt := 32) hx hb dL_winding_24 (by decide) (by omega) (by omega) (fun c24 => ?_) (fun c24 => ?_)
    · skip
      refine lv_iload hx hb dL_winding_32 (lv_at hl 1 rfl) ?_
      refine zb_neg hx hb dL_winding_34 ?_
      exact hj35 (-k) (by omega)
    · skip
      refine lv_iload hx hb dL_winding_27 (lv_at hl 1 rfl) ?_
      refine lv_goto (tgt := 35) hx hb dL_winding_29 (by decide) ?_
      exact hj35 k (by omega)
  · skip
    refine lv_istore (lv' := [(6, .int (zI h)), (5, .int (zI b)), (4, .int (zI k)), (3, .int (zI t)), (0, .ref o), (1, .int (zI x)), (2, .ref da)]) hx hb dL_winding_35 hl (by decide) rfl (fun ls hl => ?_)
    refine lv_aload_n hx hb dL_winding_37 rfl (lv_at hl 6 rfl) ?_
    refine zb_iconst hx hb dL_winding_38 ?_
    refine aw_dld hx hb hK hP 3 1 rfl rfl 3 (by decide) dL_winding_39 ?_
    refine lv_iload hx hb dL_winding_40 (lv_at hl 0 rfl) ?_
    refine zb_add hx hb dL_winding_42 ?_
    refine lv_istore (lv' := [(7, .int (zI ((dv 3) + h))), (6, .int (zI h)), (5, .int (zI b)), (4, .int (zI k)), (3, .int (zI t)), (0, .ref o), (1, .int (zI x)), (2, .ref da)]) hx hb dL_winding_43 hl (by decide) rfl (fun ls hl => ?_)
    have htd := aw_tdiv_in (x := dv 3 + h) (y := dv 0 / 2) (a := 75) (by omega) (by omega) (by omega)
    refine lv_aload_n hx hb dL_winding_45 rfl (lv_at hl 5 rfl) ?_
    refine zb_iconst hx hb dL_winding_46 ?_
    refine lv_iload hx hb dL_winding_47 (lv_at hl 3 rfl) ?_
    refine zb_iconst hx hb dL_winding_49 ?_
    refine aw_callV (As := [.int (zI 2), .int (zI k), .int (zI 1)]) (rest := []) ⟨hx, hb, hml, hown, hts⟩ (k_setWinding_oor (t := 2) (x := k) (b := 1) ⟨by omega, by omega⟩ ⟨by omega, by omega⟩ (by omega)) (cwV 3 hts gL_winding_X0_setWinding rfl rfl rfl (by decide +kernel) ⟨Nat.le_of_ble_eq_true rfl, Nat.le_of_ble_eq_true rfl⟩) (hP.sub (ws' := [(o, .inr (0, [.int (zI (dv 0)), .int (zI (dv 1)), .int (zI (dv 2)), .int (zI (dv 3)), .int ty, .int px, .int pr, .int (zI (dv 7)), .int (zI (dv 8)), .ref oa, .ref ba])), (oa, .inl (yZ, 72, .inl (aw_f ob))), (ba, .inl (yI, 72, .inl g))]) [0, 1, 2] rfl) hK rfl rfl rfl hl.1 rfl (Nat.le_of_ble_eq_true rfl) dL_winding_50 ⟨Nat.zero_le _, Nat.zero_le _⟩ ?_
    refine zb_sipush hx hb dL_winding_53 (by decide) ?_
    refine zb_cne (tgt := 98) hx hb dL_winding_56 (by decide) (by omega) (by omega) (fun c56 => absurd c56 (by omega)) (fun c56 => ?_)
    refine lv_aload_n hx hb dL_winding_59 rfl (lv_at hl 5 rfl) ?_
    refine zb_iconst hx hb dL_winding_60 ?_
    refine zb_iconst hx hb dL_winding_61 ?_
    refine zb_iconst hx hb dL_winding_62 ?_
    refine aw_callV (As := [.int (zI ((-1))), .int (zI 1), .int (zI 1)]) (rest := []) ⟨hx, hb, hml, hown, hts⟩ (k_setWinding_oor (t := -1) (x := 1) (b := 1) ⟨by omega, by omega⟩ ⟨by omega, by omega⟩ (by omega)) (cwV 3 hts gL_winding_X0_setWinding rfl rfl rfl (by decide +kernel) ⟨Nat.le_of_ble_eq_true rfl, Nat.le_of_ble_eq_true rfl⟩) (hP.sub (ws' := [(o, .inr (0, [.int (zI (dv 0)), .int (zI (dv 1)), .int (zI (dv 2)), .int (zI (dv 3)), .int ty, .int px, .int pr, .int (zI (dv 7)), .int (zI (dv 8)), .ref oa, .ref ba])), (oa, .inl (yZ, 72, .inl (aw_f ob))), (ba, .inl (yI, 72, .inl g))]) [0, 1, 2] rfl) hK rfl rfl rfl hl.1 rfl (Nat.le_of_ble_eq_true rfl) dL_winding_63 ⟨Nat.zero_le _, Nat.zero_le _⟩ ?_
    refine zb_sipush hx hb dL_winding_66 (by decide) ?_
    refine zb_cne (tgt := 98) hx hb dL_winding_69 (by decide) (by omega) (by omega) (fun c69 => absurd c69 (by omega)) (fun c69 => ?_)
    refine lv_aload_n hx hb dL_winding_72 rfl (lv_at hl 5 rfl) ?_
    refine lv_iload_n hx hb dL_winding_73 rfl (lv_at hl 4 rfl) ?_
    refine zb_iconst hx hb dL_winding_74 ?_
    refine zb_iconst hx hb dL_winding_75 ?_
    refine aw_callV (As := [.int (zI t), .int (zI 0), .int (zI 1)]) (rest := []) ⟨hx, hb, hml, hown, hts⟩ (k_setWinding_oor (t := t) (x := 0) (b := 1) ⟨by omega, by omega⟩ ⟨by omega, by omega⟩ (by omega)) (cwV 3 hts gL_winding_X0_setWinding rfl rfl rfl (by decide +kernel) ⟨Nat.le_of_ble_eq_true rfl, Nat.le_of_ble_eq_true rfl⟩) (hP.sub (ws' := [(o, .inr (0, [.int (zI (dv 0)), .int (zI (dv 1)), .int (zI (dv 2)), .int (zI (dv 3)), .int ty, .int px, .int pr, .int (zI (dv 7)), .int (zI (dv 8)), .ref oa, .ref ba])), (oa, .inl (yZ, 72, .inl (aw_f ob))), (ba, .inl (yI, 72, .inl g))]) [0, 1, 2] rfl) hK rfl rfl rfl hl.1 rfl (Nat.le_of_ble_eq_true rfl) dL_winding_76 ⟨Nat.zero_le _, Nat.zero_le _⟩ ?_
    refine zb_sipush hx hb dL_winding_79 (by decide) ?_
    refine zb_cne (tgt := 98) hx hb dL_winding_82 (by decide) (by omega) (by omega) (fun c82 => absurd c82 (by omega)) (fun c82 => ?_)
    refine lv_aload_n hx hb dL_winding_85 rfl (lv_at hl 5 rfl) ?_
    refine lv_iload_n hx hb dL_winding_86 rfl (lv_at hl 4 rfl) ?_
    refine zb_iconst hx hb dL_winding_87 ?_
    refine zb_iconst hx hb dL_winding_88 ?_
    refine aw_callV (As := [.int (zI t), .int (zI 4), .int (zI 0)]) (rest := []) ⟨hx, hb, hml, hown, hts⟩ (k_setWinding_oor (t := t) (x := 4) (b := 0) ⟨by omega, by omega⟩ ⟨by omega, by omega⟩ (by omega)) (cwV 3 hts gL_winding_X0_setWinding rfl rfl rfl (by decide +kernel) ⟨Nat.le_of_ble_eq_true rfl, Nat.le_of_ble_eq_true rfl⟩) (hP.sub (ws' := [(o, .inr (0, [.int (zI (dv 0)), .int (zI (dv 1)), .int (zI (dv 2)), .int (zI (dv 3)), .int ty, .int px, .int pr, .int (zI (dv 7)), .int (zI (dv 8)), .ref oa, .ref ba])), (oa, .inl (yZ, 72, .inl (aw_f ob))), (ba, .inl (yI, 72, .inl g))]) [0, 1, 2] rfl) hK rfl rfl rfl hl.1 rfl (Nat.le_of_ble_eq_true rfl) dL_winding_89 ⟨Nat.zero_le _, Nat.zero_le _⟩ ?_
    refine zb_sipush hx hb dL_winding_92 (by decide) ?_
    refine zb_ceq (tgt := 100) hx hb dL_winding_95 (by decide) (by omega) (by omega) (fun c95 => ?_) (fun c95 => absurd c95 (by omega))
    refine lv_iload_n hx hb dL_winding_100 rfl (lv_at hl 4 rfl) ?_
    refine zb_iconst hx hb dL_winding_101 ?_
    refine zb_cne (tgt := 146) hx hb dL_winding_102 (by decide) (by omega) (by omega) (fun c102 => ?_) (fun c102 => ?_)
    · skip
      have t0 : t = 0 := by omega
      have hIn : aw_In (dv 0) (dv 1) (dv 2) (dv 3) h (dv 8) := ⟨by omega, by omega, by omega, by omega, by omega, by omega, i7, by omega, by omega, by omega, by omega, by omega, by omega⟩
      refine lv_aload_n hx hb dL_winding_146 rfl (lv_at hl 7 rfl) ?_
      refine zb_iconst hx hb dL_winding_147 ?_
      refine lv_iload_n hx hb dL_winding_148 rfl (lv_at hl 4 rfl) ?_
      refine aw_dst hx hb hK hP hD hS 3 1 rfl rfl 4 (by decide) dL_winding_149 (fun H locs hP hD hS => ?_)
      have hP : va_P D vwCl [(o, .inr (0, [.int (zI (dv 0)), .int (zI (dv 1)), .int (zI (dv 2)), .int (zI (dv 3)), .int ty, .int px, .int pr, .int (zI (dv 7)), .int (zI (dv 8)), .ref oa, .ref ba])), (oa, .inl (yZ, 72, .inl (aw_f ob))), (ba, .inl (yI, 72, .inl g)), aw_Dr yI da (aw_ud dv 4 t), aw_Mr yI pa pf] H := hP
      have hD : va_D _ [(o, .inr (0, [.int (zI (dv 0)), .int (zI (dv 1)), .int (zI (dv 2)), .int (zI (dv 3)), .int ty, .int px, .int pr, .int (zI (dv 7)), .int (zI (dv 8)), .ref oa, .ref ba])), (oa, .inl (yZ, 72, .inl (aw_f ob))), (ba, .inl (yI, 72, .inl g)), aw_Dr yI da (aw_ud dv 4 t), aw_Mr yI pa pf] := hD
      refine lv_aload_n hx hb dL_winding_150 rfl (lv_at hl 7 rfl) ?_
      refine zb_iconst hx hb dL_winding_151 ?_
      refine lv_iload hx hb dL_winding_152 (lv_at hl 3 rfl) ?_
      refine aw_dst hx hb hK hP hD hS 3 1 rfl rfl 5 (by decide) dL_winding_154 (fun H locs hP hD hS => ?_)
      have hP : va_P D vwCl [(o, .inr (0, [.int (zI (dv 0)), .int (zI (dv 1)), .int (zI (dv 2)), .int (zI (dv 3)), .int ty, .int px, .int pr, .int (zI (dv 7)), .int (zI (dv 8)), .ref oa, .ref ba])), (oa, .inl (yZ, 72, .inl (aw_f ob))), (ba, .inl (yI, 72, .inl g)), aw_Dr yI da (aw_ud (aw_ud dv 4 t) 5 k), aw_Mr yI pa pf] H := hP
      have hD : va_D _ [(o, .inr (0, [.int (zI (dv 0)), .int (zI (dv 1)), .int (zI (dv 2)), .int (zI (dv 3)), .int ty, .int px, .int pr, .int (zI (dv 7)), .int (zI (dv 8)), .ref oa, .ref ba])), (oa, .inl (yZ, 72, .inl (aw_f ob))), (ba, .inl (yI, 72, .inl g)), aw_Dr yI da (aw_ud (aw_ud dv 4 t) 5 k), aw_Mr yI pa pf] := hD
      refine lv_aload_n hx hb dL_winding_155 rfl (lv_at hl 7 rfl) ?_
      refine zb_bipush hx hb dL_winding_156 (by decide) ?_
      refine lv_iload hx hb dL_winding_158 (lv_at hl 2 rfl) ?_
      refine aw_dst hx hb hK hP hD hS 3 1 rfl rfl 6 (by decide) dL_winding_160 (fun H locs hP hD hS => ?_)
      have hP : va_P D vwCl [(o, .inr (0, [.int (zI (dv 0)), .int (zI (dv 1)), .int (zI (dv 2)), .int (zI (dv 3)), .int ty, .int px, .int pr, .int (zI (dv 7)), .int (zI (dv 8)), .ref oa, .ref ba])), (oa, .inl (yZ, 72, .inl (aw_f ob))), (ba, .inl (yI, 72, .inl g)), aw_Dr yI da (aw_ud (aw_ud (aw_ud dv 4 t) 5 k) 6 b), aw_Mr yI pa pf] H := hP
      have hD : va_D _ [(o, .inr (0, [.int (zI (dv 0)), .int (zI (dv 1)), .int (zI (dv 2)), .int (zI (dv 3)), .int ty, .int px, .int pr, .int (zI (dv 7)), .int (zI (dv 8)), .ref oa, .ref ba])), (oa, .inl (yZ, 72, .inl (aw_f ob))), (ba, .inl (yI, 72, .inl g)), aw_Dr yI da (aw_ud (aw_ud (aw_ud dv 4 t) 5 k) 6 b), aw_Mr yI pa pf] := hD
      refine lv_aload_n hx hb dL_winding_161 rfl (lv_at hl 7 rfl) ?_
      refine zb_bipush hx hb dL_winding_162 (by decide) ?_
      refine lv_iload_n hx hb dL_winding_164 rfl (lv_at hl 4 rfl) ?_
      refine zb_ine (tgt := 173) hx hb dL_winding_165 (by decide) (by omega) (fun c165 => absurd c165 (by omega)) (fun c165 => ?_)
      refine lv_iload hx hb dL_winding_168 (lv_at hl 1 rfl) ?_
      refine lv_goto (tgt := 181) hx hb dL_winding_170 (by decide) ?_
      refine aw_dst hx hb hK hP hD hS 3 1 rfl rfl 7 (by decide) dL_winding_181 (fun H locs hP hD hS => ?_)
      have hP : va_P D vwCl [(o, .inr (0, [.int (zI (dv 0)), .int (zI (dv 1)), .int (zI (dv 2)), .int (zI (dv 3)), .int ty, .int px, .int pr, .int (zI (dv 7)), .int (zI (dv 8)), .ref oa, .ref ba])), (oa, .inl (yZ, 72, .inl (aw_f ob))), (ba, .inl (yI, 72, .inl g)), aw_Dr yI da (aw_ud (aw_ud (aw_ud (aw_ud dv 4 t) 5 k) 6 b) 7 h), aw_Mr yI pa pf] H := hP
      have hD : va_D _ [(o, .inr (0, [.int (zI (dv 0)), .int (zI (dv 1)), .int (zI (dv 2)), .int (zI (dv 3)), .int ty, .int px, .int pr, .int (zI (dv 7)), .int (zI (dv 8)), .ref oa, .ref ba])), (oa, .inl (yZ, 72, .inl (aw_f ob))), (ba, .inl (yI, 72, .inl g)), aw_Dr yI da (aw_ud (aw_ud (aw_ud (aw_ud dv 4 t) 5 k) 6 b) 7 h), aw_Mr yI pa pf] := hD
      refine lv_aload_n hx hb dL_winding_182 rfl (lv_at hl 5 rfl) ?_
      refine lv_iload_n hx hb dL_winding_183 rfl (lv_at hl 4 rfl) ?_
      refine lv_iload hx hb dL_winding_184 (lv_at hl 3 rfl) ?_
      refine lv_iload hx hb dL_winding_186 (lv_at hl 2 rfl) ?_
      refine zb_iconst hx hb dL_winding_188 ?_
      refine zb_join (fun j2 => b = j2) (pcj := 197) (lj := ls) (rj := [.int (zI k), .int (zI t), .ref o]) (fun j2 hj2 => ?_) (fun hj197 => ?_)
      rotate_left
      · skip
        refine zb_cne (tgt := 196) hx hb dL_winding_189 (by decide) (by omega) (by omega) (fun c189 => ?_) (fun c189 => ?_)
        · skip
          refine zb_iconst hx hb dL_winding_196 ?_
          exact hj197 0 (by omega)
        · skip
          refine zb_iconst hx hb dL_winding_192 ?_
          refine lv_goto (tgt := 197) hx hb dL_winding_193 (by decide) ?_
          exact hj197 1 (by omega)
      · skip
        subst hj2
        refine aw_callMV (As := [.int (zI t), .int (zI k), .int (zI b)]) (rest := []) (wc := [(o, .inr (0, [.int (zI (dv 0)), .int (zI (dv 1)), .int (zI (dv 2)), .int (zI (dv 3)), .int ty, .int px, .int pr, .int (zI (dv 7)), .int (zI (dv 8)), .ref oa, .ref ba])), (oa, .inl (yZ, 72, .inl (aw_f ob))), (ba, .inl (yI, 72, .inl g))]) (wr := [aw_Dr yI da (aw_ud (aw_ud (aw_ud (aw_ud dv 4 t) 5 k) 6 b) 7 h), aw_Mr yI pa pf]) (ws2 := fun u => [(o, .inr (0, [.int (zI (dv 0)), .int (zI (dv 1)), .int (zI (dv 2)), .int (zI (dv 3)), .int (zI t), .int (zI k), .int (zI b), .int (zI h), .int (zI (dv 8)), .ref oa, .ref ba])), (oa, .inl (yZ, 72, .inl (aw_f ob))), (ba, .inl (yI, 72, .inl g)), aw_Dr yI da (aw_ud (aw_ud (aw_ud (aw_ud dv 4 t) 5 k) 6 b) 7 h), aw_Mr yI pa pf]) ⟨hx, hb, hml, hown, hts⟩ (k_setWinding_lap (t := t) (x := k) (b := b) (h := h) ⟨by omega, by omega⟩ ⟨by omega, by omega⟩ ⟨by omega, by omega⟩ hh t0) (cwV 3 hts gL_winding_X0_setWinding rfl rfl rfl (by decide +kernel) ⟨Nat.le_of_ble_eq_true rfl, Nat.le_of_ble_eq_true rfl⟩) hP hD hK hS hA rfl rfl [0, 1, 2] [3, 4] rfl rfl (by decide) (by decide) (by decide) [2, 3, 4, 0, 1] (by decide) (fun _ => rfl) rfl hl.1 rfl (Nat.le_of_ble_eq_true rfl) dL_winding_197 ⟨Nat.zero_le _, Nat.zero_le _⟩ (fun u H locs hu hP hD hS => ?_)
        have hP : va_P D vwCl [(o, .inr (0, [.int (zI (dv 0)), .int (zI (dv 1)), .int (zI (dv 2)), .int (zI (dv 3)), .int (zI t), .int (zI k), .int (zI b), .int (zI h), .int (zI (dv 8)), .ref oa, .ref ba])), (oa, .inl (yZ, 72, .inl (aw_f ob))), (ba, .inl (yI, 72, .inl g)), aw_Dr yI da (aw_ud (aw_ud (aw_ud (aw_ud dv 4 t) 5 k) 6 b) 7 h), aw_Mr yI pa pf] H := hP
        have hD : va_D _ [(o, .inr (0, [.int (zI (dv 0)), .int (zI (dv 1)), .int (zI (dv 2)), .int (zI (dv 3)), .int (zI t), .int (zI k), .int (zI b), .int (zI h), .int (zI (dv 8)), .ref oa, .ref ba])), (oa, .inl (yZ, 72, .inl (aw_f ob))), (ba, .inl (yI, 72, .inl g)), aw_Dr yI da (aw_ud (aw_ud (aw_ud (aw_ud dv 4 t) 5 k) 6 b) 7 h), aw_Mr yI pa pf] := hD
        refine W.eq (g2 := F0 m 200 ls [.int (zI h)]) rfl ?_
        refine lv_aload_n hx hb dL_winding_200 rfl (lv_at hl 7 rfl) ?_
        refine zb_bipush hx hb dL_winding_201 (by decide) ?_
        refine aw_dld hx hb hK hP 3 1 rfl rfl 7 (by decide) dL_winding_203 ?_
        refine zb_as h rfl ?_
        refine zb_cne (tgt := 211) hx hb dL_winding_204 (by decide) (by omega) (by omega) (fun c204 => absurd c204 (by omega)) (fun c204 => ?_)
        refine zb_iconst hx hb dL_winding_207 ?_
        refine lv_goto (tgt := 212) hx hb dL_winding_208 (by decide) ?_
        exact aw_zretM (z := 1) (post := aw_p5) (ws' := fun u => aw_w5 yZ yI o oa ba da pa u) ((aw_ud (aw_ud (aw_ud (aw_ud dv 4 t) 5 k) 6 b) 7 h, pf, ob, (zI t, zI k, zI b), g) : aw_S5) hx hb hr hlocks dL_winding_212 (by omega) (by first | rfl | omega) ⟨hIn, hO⟩ hP hK hD hS
    · skip
      refine lv_iload hx hb dL_winding_105 (lv_at hl 0 rfl) ?_
      refine lv_aload_n hx hb dL_winding_107 rfl (lv_at hl 7 rfl) ?_
      refine zb_iconst hx hb dL_winding_108 ?_
      refine aw_dld hx hb hK hP 3 1 rfl rfl 0 (by decide) dL_winding_109 ?_
      refine zb_iconst hx hb dL_winding_110 ?_
      refine zb_div hx hb dL_winding_111 (by omega) (by omega) ?_
      refine zb_trem hx hb dL_winding_112 (by omega) (by omega) ?_
      refine zb_ieq (tgt := 146) hx hb dL_winding_113 (by decide) (by have := aw_tmod (x := dv 3 + h) (n := dv 0 / 2) (by omega); omega) (fun c113 => ?_) (fun c113 => ?_)
      · skip
        have hIn : aw_In (dv 0) (dv 1) (dv 2) (dv 3) ((dv 3 + h).tdiv (dv 0 / 2)) (dv 8) := ⟨by omega, by omega, by omega, by omega, by omega, by omega, i7, by omega, by omega, by omega, by omega, by omega, by omega⟩
        refine lv_aload_n hx hb dL_winding_146 rfl (lv_at hl 7 rfl) ?_
        refine zb_iconst hx hb dL_winding_147 ?_
        refine lv_iload_n hx hb dL_winding_148 rfl (lv_at hl 4 rfl) ?_
        refine aw_dst hx hb hK hP hD hS 3 1 rfl rfl 4 (by decide) dL_winding_149 (fun H locs hP hD hS => ?_)
        have hP : va_P D vwCl [(o, .inr (0, [.int (zI (dv 0)), .int (zI (dv 1)), .int (zI (dv 2)), .int (zI (dv 3)), .int ty, .int px, .int pr, .int (zI (dv 7)), .int (zI (dv 8)), .ref oa, .ref ba])), (oa, .inl (yZ, 72, .inl (aw_f ob))), (ba, .inl (yI, 72, .inl g)), aw_Dr yI da (aw_ud dv 4 t), aw_Mr yI pa pf] H := hP
        have hD : va_D _ [(o, .inr (0, [.int (zI (dv 0)), .int (zI (dv 1)), .int (zI (dv 2)), .int (zI (dv 3)), .int ty, .int px, .int pr, .int (zI (dv 7)), .int (zI (dv 8)), .ref oa, .ref ba])), (oa, .inl (yZ, 72, .inl (aw_f ob))), (ba, .inl (yI, 72, .inl g)), aw_Dr yI da (aw_ud dv 4 t), aw_Mr yI pa pf] := hD
        refine lv_aload_n hx hb dL_winding_150 rfl (lv_at hl 7 rfl) ?_
        refine zb_iconst hx hb dL_winding_151 ?_
        refine lv_iload hx hb dL_winding_152 (lv_at hl 3 rfl) ?_
        refine aw_dst hx hb hK hP hD hS 3 1 rfl rfl 5 (by decide) dL_winding_154 (fun H locs hP hD hS => ?_)
        have hP : va_P D vwCl [(o, .inr (0, [.int (zI (dv 0)), .int (zI (dv 1)), .int (zI (dv 2)), .int (zI (dv 3)), .int ty, .int px, .int pr, .int (zI (dv 7)), .int (zI (dv 8)), .ref oa, .ref ba])), (oa, .inl (yZ, 72, .inl (aw_f ob))), (ba, .inl (yI, 72, .inl g)), aw_Dr yI da (aw_ud (aw_ud dv 4 t) 5 k), aw_Mr yI pa pf] H := hP
        have hD : va_D _ [(o, .inr (0, [.int (zI (dv 0)), .int (zI (dv 1)), .int (zI (dv 2)), .int (zI (dv 3)), .int ty, .int px, .int pr, .int (zI (dv 7)), .int (zI (dv 8)), .ref oa, .ref ba])), (oa, .inl (yZ, 72, .inl (aw_f ob))), (ba, .inl (yI, 72, .inl g)), aw_Dr yI da (aw_ud (aw_ud dv 4 t) 5 k), aw_Mr yI pa pf] := hD
        refine lv_aload_n hx hb dL_winding_155 rfl (lv_at hl 7 rfl) ?_
        refine zb_bipush hx hb dL_winding_156 (by decide) ?_
        refine lv_iload hx hb dL_winding_158 (lv_at hl 2 rfl) ?_
        refine aw_dst hx hb hK hP hD hS 3 1 rfl rfl 6 (by decide) dL_winding_160 (fun H locs hP hD hS => ?_)
        have hP : va_P D vwCl [(o, .inr (0, [.int (zI (dv 0)), .int (zI (dv 1)), .int (zI (dv 2)), .int (zI (dv 3)), .int ty, .int px, .int pr, .int (zI (dv 7)), .int (zI (dv 8)), .ref oa, .ref ba])), (oa, .inl (yZ, 72, .inl (aw_f ob))), (ba, .inl (yI, 72, .inl g)), aw_Dr yI da (aw_ud (aw_ud (aw_ud dv 4 t) 5 k) 6 b), aw_Mr yI pa pf] H := hP
        have hD : va_D _ [(o, .inr (0, [.int (zI (dv 0)), .int (zI (dv 1)), .int (zI (dv 2)), .int (zI (dv 3)), .int ty, .int px, .int pr, .int (zI (dv 7)), .int (zI (dv 8)), .ref oa, .ref ba])), (oa, .inl (yZ, 72, .inl (aw_f ob))), (ba, .inl (yI, 72, .inl g)), aw_Dr yI da (aw_ud (aw_ud (aw_ud dv 4 t) 5 k) 6 b), aw_Mr yI pa pf] := hD
        refine lv_aload_n hx hb dL_winding_161 rfl (lv_at hl 7 rfl) ?_
        refine zb_bipush hx hb dL_winding_162 (by decide) ?_
        refine lv_iload_n hx hb dL_winding_164 rfl (lv_at hl 4 rfl) ?_
        refine zb_ine (tgt := 173) hx hb dL_winding_165 (by decide) (by omega) (fun c165 => ?_) (fun c165 => absurd c165 (by omega))
        refine lv_iload hx hb dL_winding_173 (lv_at hl 0 rfl) ?_
        refine lv_aload_n hx hb dL_winding_175 rfl (lv_at hl 7 rfl) ?_
        refine zb_iconst hx hb dL_winding_176 ?_
        refine aw_dld hx hb hK hP 3 1 rfl rfl 0 (by decide) dL_winding_177 ?_
        refine zb_as (dv 0) rfl ?_
        refine zb_iconst hx hb dL_winding_178 ?_
        refine zb_div hx hb dL_winding_179 (by omega) (by omega) ?_
        refine zb_tdiv hx hb dL_winding_180 (by omega) (by omega) ?_
        refine aw_dst hx hb hK hP hD hS 3 1 rfl rfl 7 (by decide) dL_winding_181 (fun H locs hP hD hS => ?_)
        have hP : va_P D vwCl [(o, .inr (0, [.int (zI (dv 0)), .int (zI (dv 1)), .int (zI (dv 2)), .int (zI (dv 3)), .int ty, .int px, .int pr, .int (zI (dv 7)), .int (zI (dv 8)), .ref oa, .ref ba])), (oa, .inl (yZ, 72, .inl (aw_f ob))), (ba, .inl (yI, 72, .inl g)), aw_Dr yI da (aw_ud (aw_ud (aw_ud (aw_ud dv 4 t) 5 k) 6 b) 7 (((dv 3) + h).tdiv ((dv 0) / 2))), aw_Mr yI pa pf] H := hP
        have hD : va_D _ [(o, .inr (0, [.int (zI (dv 0)), .int (zI (dv 1)), .int (zI (dv 2)), .int (zI (dv 3)), .int ty, .int px, .int pr, .int (zI (dv 7)), .int (zI (dv 8)), .ref oa, .ref ba])), (oa, .inl (yZ, 72, .inl (aw_f ob))), (ba, .inl (yI, 72, .inl g)), aw_Dr yI da (aw_ud (aw_ud (aw_ud (aw_ud dv 4 t) 5 k) 6 b) 7 (((dv 3) + h).tdiv ((dv 0) / 2))), aw_Mr yI pa pf] := hD
        refine lv_aload_n hx hb dL_winding_182 rfl (lv_at hl 5 rfl) ?_
        refine lv_iload_n hx hb dL_winding_183 rfl (lv_at hl 4 rfl) ?_
        refine lv_iload hx hb dL_winding_184 (lv_at hl 3 rfl) ?_
        refine lv_iload hx hb dL_winding_186 (lv_at hl 2 rfl) ?_
        refine zb_iconst hx hb dL_winding_188 ?_
        refine zb_join (fun j2 => b = j2) (pcj := 197) (lj := ls) (rj := [.int (zI k), .int (zI t), .ref o]) (fun j2 hj2 => ?_) (fun hj197 => ?_)
        rotate_left
        · skip
          refine zb_cne (tgt := 196) hx hb dL_winding_189 (by decide) (by omega) (by omega) (fun c189 => ?_) (fun c189 => ?_)
          · skip
            refine zb_iconst hx hb dL_winding_196 ?_
            exact hj197 0 (by omega)
          · skip
            refine zb_iconst hx hb dL_winding_192 ?_
            refine lv_goto (tgt := 197) hx hb dL_winding_193 (by decide) ?_
            exact hj197 1 (by omega)
        · skip
          subst hj2
          refine aw_callMV (As := [.int (zI t), .int (zI k), .int (zI b)]) (rest := []) (wc := [(o, .inr (0, [.int (zI (dv 0)), .int (zI (dv 1)), .int (zI (dv 2)), .int (zI (dv 3)), .int ty, .int px, .int pr, .int (zI (dv 7)), .int (zI (dv 8)), .ref oa, .ref ba])), (oa, .inl (yZ, 72, .inl (aw_f ob))), (ba, .inl (yI, 72, .inl g))]) (wr := [aw_Dr yI da (aw_ud (aw_ud (aw_ud (aw_ud dv 4 t) 5 k) 6 b) 7 (((dv 3) + h).tdiv ((dv 0) / 2))), aw_Mr yI pa pf]) (ws2 := fun u => [(o, .inr (0, [.int (zI (dv 0)), .int (zI (dv 1)), .int (zI (dv 2)), .int (zI (dv 3)), .int (zI t), .int (zI k), .int (zI b), .int (zI ((dv 3 + h).tdiv (dv 0 / 2))), .int (zI (dv 8)), .ref oa, .ref ba])), (oa, .inl (yZ, 72, .inl (aw_f ob))), (ba, .inl (yI, 72, .inl g)), aw_Dr yI da (aw_ud (aw_ud (aw_ud (aw_ud dv 4 t) 5 k) 6 b) 7 (((dv 3) + h).tdiv ((dv 0) / 2))), aw_Mr yI pa pf]) ⟨hx, hb, hml, hown, hts⟩ (k_setWinding_wave (t := t) (x := k) (b := b) (h := h) ⟨by omega, by omega⟩ ⟨by omega, by omega⟩ ⟨by omega, by omega⟩ hh (by omega) (aw_tyes c113)) (cwV 3 hts gL_winding_X0_setWinding rfl rfl rfl (by decide +kernel) ⟨Nat.le_of_ble_eq_true rfl, Nat.le_of_ble_eq_true rfl⟩) hP hD hK hS hA rfl rfl [0, 1, 2] [3, 4] rfl rfl (by decide) (by decide) (by decide) [2, 3, 4, 0, 1] (by decide) (fun _ => rfl) rfl hl.1 rfl (Nat.le_of_ble_eq_true rfl) dL_winding_197 ⟨Nat.zero_le _, Nat.zero_le _⟩ (fun u H locs hu hP hD hS => ?_)
          have hP : va_P D vwCl [(o, .inr (0, [.int (zI (dv 0)), .int (zI (dv 1)), .int (zI (dv 2)), .int (zI (dv 3)), .int (zI t), .int (zI k), .int (zI b), .int (zI ((dv 3 + h).tdiv (dv 0 / 2))), .int (zI (dv 8)), .ref oa, .ref ba])), (oa, .inl (yZ, 72, .inl (aw_f ob))), (ba, .inl (yI, 72, .inl g)), aw_Dr yI da (aw_ud (aw_ud (aw_ud (aw_ud dv 4 t) 5 k) 6 b) 7 (((dv 3) + h).tdiv ((dv 0) / 2))), aw_Mr yI pa pf] H := hP
          have hD : va_D _ [(o, .inr (0, [.int (zI (dv 0)), .int (zI (dv 1)), .int (zI (dv 2)), .int (zI (dv 3)), .int (zI t), .int (zI k), .int (zI b), .int (zI ((dv 3 + h).tdiv (dv 0 / 2))), .int (zI (dv 8)), .ref oa, .ref ba])), (oa, .inl (yZ, 72, .inl (aw_f ob))), (ba, .inl (yI, 72, .inl g)), aw_Dr yI da (aw_ud (aw_ud (aw_ud (aw_ud dv 4 t) 5 k) 6 b) 7 (((dv 3) + h).tdiv ((dv 0) / 2))), aw_Mr yI pa pf] := hD
          refine W.eq (g2 := F0 m 200 ls [.int (zI ((dv 3 + h).tdiv (dv 0 / 2)))]) rfl ?_
          refine lv_aload_n hx hb dL_winding_200 rfl (lv_at hl 7 rfl) ?_
          refine zb_bipush hx hb dL_winding_201 (by decide) ?_
          refine aw_dld hx hb hK hP 3 1 rfl rfl 7 (by decide) dL_winding_203 ?_
          refine zb_as (((dv 3) + h).tdiv ((dv 0) / 2)) rfl ?_
          refine zb_cne (tgt := 211) hx hb dL_winding_204 (by decide) (by omega) (by omega) (fun c204 => absurd c204 (by omega)) (fun c204 => ?_)
          refine zb_iconst hx hb dL_winding_207 ?_
          refine lv_goto (tgt := 212) hx hb dL_winding_208 (by decide) ?_
          exact aw_zretM (z := 1) (post := aw_p5) (ws' := fun u => aw_w5 yZ yI o oa ba da pa u) ((aw_ud (aw_ud (aw_ud (aw_ud dv 4 t) 5 k) 6 b) 7 (((dv 3) + h).tdiv ((dv 0) / 2)), pf, ob, (zI t, zI k, zI b), g) : aw_S5) hx hb hr hlocks dL_winding_212 (by omega) (by first | rfl | omega) ⟨hIn, hO⟩ hP hK hD hS
      · skip
        refine lv_aload_n hx hb dL_winding_116 rfl (lv_at hl 5 rfl) ?_
        refine lv_iload_n hx hb dL_winding_117 rfl (lv_at hl 4 rfl) ?_
        refine lv_iload hx hb dL_winding_118 (lv_at hl 3 rfl) ?_
        refine lv_iload hx hb dL_winding_120 (lv_at hl 2 rfl) ?_
        refine zb_iconst hx hb dL_winding_122 ?_
        refine zb_join (fun j1 => b = j1) (pcj := 131) (lj := ls) (rj := [.int (zI k), .int (zI t), .ref o]) (fun j1 hj1 => ?_) (fun hj131 => ?_)
        rotate_left
        · skip
          refine zb_cne (tgt := 130) hx hb dL_winding_123 (by decide) (by omega) (by omega) (fun c123 => ?_) (fun c123 => ?_)
          · skip
            refine zb_iconst hx hb dL_winding_130 ?_
            exact hj131 0 (by omega)
          · skip
            refine zb_iconst hx hb dL_winding_126 ?_
            refine lv_goto (tgt := 131) hx hb dL_winding_127 (by decide) ?_
            exact hj131 1 (by omega)
        · skip
          subst hj1
          refine aw_callV (As := [.int (zI t), .int (zI k), .int (zI b)]) (rest := []) ⟨hx, hb, hml, hown, hts⟩ (k_setWinding_np (t := t) (x := k) (b := b) (h := h) ⟨by omega, by omega⟩ ⟨by omega, by omega⟩ (by omega) ⟨by omega, by omega⟩ hh (aw_tno c113)) (cwV 3 hts gL_winding_X0_setWinding rfl rfl rfl (by decide +kernel) ⟨Nat.le_of_ble_eq_true rfl, Nat.le_of_ble_eq_true rfl⟩) (hP.sub (ws' := [(o, .inr (0, [.int (zI (dv 0)), .int (zI (dv 1)), .int (zI (dv 2)), .int (zI (dv 3)), .int ty, .int px, .int pr, .int (zI (dv 7)), .int (zI (dv 8)), .ref oa, .ref ba])), (oa, .inl (yZ, 72, .inl (aw_f ob))), (ba, .inl (yI, 72, .inl g))]) [0, 1, 2] rfl) hK rfl rfl rfl hl.1 rfl (Nat.le_of_ble_eq_true rfl) dL_winding_131 ⟨Nat.zero_le _, Nat.zero_le _⟩ ?_
          refine zb_sipush hx hb dL_winding_134 (by decide) ?_
          refine zb_cne (tgt := 144) hx hb dL_winding_137 (by decide) (by omega) (by omega) (fun c137 => absurd c137 (by omega)) (fun c137 => ?_)
          refine zb_iconst hx hb dL_winding_140 ?_
          refine lv_goto (tgt := 145) hx hb dL_winding_141 (by decide) ?_
          exact aw_zretM (z := 1) (post := aw_p5) (ws' := fun u => aw_w5 yZ yI o oa ba da pa u) ((dv, pf, ob, (ty, px, pr), g) : aw_S5) hx hb hr hlocks dL_winding_145 (by omega) (by first | rfl | omega) ⟨hI, hO⟩ hP hK hD hS
end
