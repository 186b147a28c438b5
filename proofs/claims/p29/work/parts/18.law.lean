/-! THE CLAIM OUT OF ONE WALK OF THE LAW'S BODY. Your part is whole_start (and what it stands on); all else here is the same for every law, but numbers. -/
def R_law : String := "ArmatureWindingLaw"
def lw_P (b : Addr) (xs : List Int32) (args : Array Value) (s : State) : Prop := args = #[.ref b] ∧ s.IntsAt b xs ∧ xs.length ≤ 260 ∧ (Jvm.Cond.and given_1 narrow_1).before args s = true
def lw_Q (_ : Array Value) (s : State) (o : Outcome) (t : State) : Prop := o = .returned (some (.int 1)) ∧ Framed s o t [] 5 167
def lw_Z (below : List Frame) (a : Array Value) (s : State) : State → Prop := fun t => ∃ o, t.status = .running ∧ Ended t below o ∧ lw_Q a s o t
/-- the law's own end, with 1 on the stack, nothing written that was there before, its room as the claim has it -/
theorem lw_ret {p : Program} {l : Launch} {e : Env} {s : State} {m : MethodId} {below : List Frame} {meth : Method} {c : Code} {b : Nat} (hx : p.tables.exec = Jvm.exec) (hb : c.code = code) (hr : meth.sig.returnType = ret) (hlocks : meth.locks = false) {pc : Nat} {H : Heap} {ls : Array Slot} (hdg : decode code pc = .ok (.ireturn, 1)) : W p l e room_1 s m #[Value.ref b] below meth c H [] 5 167 (lw_Z below #[Value.ref b] s) (F0 m pc ls [.int 1]) := by
  intro T hT X
  obtain ⟨fs, hret, hrun, hended, hW, hframe⟩ := X.leave (v := some (.int 1)) (hlocks := hlocks) (fun h => by rw [hr] at h; cases h)
  have hmeth' : T.vm.method? m = some meth := X.method'
  refine ⟨T.setFrames fs, ?_, .returned (some (.int 1)), hrun, hended, rfl, ⟨_, rfl⟩, hW, hframe⟩
  jvm_step X.here [X.here.top, hx, hb, hdg, hmeth', hr, ret, narrow_b1]
  (try refine ⟨rfl, ?_⟩); (try refine ⟨rfl, ?_⟩)
  first | (intro acts; rw [hret _ acts rfl rfl rfl]) | rw [hret _ _ rfl rfl rfl]
  exact Steps.refl _
/-- what holds at the law's entry: the machine, the code, the tables' words (any of lw_tbl by 'hts w (by decide +kernel)'), the script of L ints xs at the cell b, what the Statement gives of the start (any of its parts by flat_of_before) -/
def lw_At (p : Program) (s : State) (m : MethodId) (meth : Method) (c : Code) (b L : Nat) (xs : Nat → Int32) : Prop :=
  p.tables.exec = Jvm.exec ∧ c.code = code ∧ meth.sig.returnType = ret ∧ c.maxLocals = 7 ∧ s.vm.findClass R_law = some m.cls ∧ (∀ w ∈ lw_tbl, w.before #[Value.ref b] s = true) ∧ va_X b L xs s s.heap ∧ b < s.heap.size ∧ meth.locks = false ∧ (Jvm.Cond.and given_1 narrow_1).before #[Value.ref b] s = true
set_option maxHeartbeats 4000000 in
set_option maxRecDepth 100000 in
/-- THE LAW, from its entry -/
theorem whole_start {p : Program} {e : Env} {s : State} {m : MethodId} {below : List Frame} {meth : Method} {c : Code} (l : Launch) (hflags : l.flags = flags0) {b L : Nat} {xs : Nat → Int32} (hL : L ≤ 260) (C0 : lw_At p s m meth c b L xs) : W p l e room_1 s m #[Value.ref b] below meth c s.heap [] 0 0 (lw_Z below #[Value.ref b] s) (entryFrame m ([Value.ref b] : List Value).toArray 7) := by
  obtain ⟨hx, hb, hr, hml, hown, hts, hX, hbl, hlocks, hgv⟩ := id C0
  have hA : ∀ q : Nat, s.heap.size ≤ q → (fun q : Nat => s.heap.size ≤ q) q := fun _ h => h
  have hbA : ¬ (fun q : Nat => s.heap.size ≤ q) b := Nat.not_le.mpr hbl
  have hown : s.vm.findClass RL = some m.cls := hown
  have hts : ∀ w ∈ wsL_law, w.before #[Value.ref b] s = true := fun w h => hts w (wsL_law_in w h)
  obtain ⟨c0, iS0, hKn0⟩ := u_known (C := RX0) (T := TX0) (N := 11) (n := 11) hts inlX0 (hts (.instantiable RX0 11) (by decide +kernel))
  obtain ⟨D, hK⟩ : ∃ D : va_G, va_K D vwCl [] s := by
    refine ⟨(fun _ => c0, fun _ => iS0), ⟨?_, fun k q h => by simp at h⟩⟩
    intro k q hq
    match k, hq with
    | 0, hq => cases hq; exact hKn0
    | k + 1, hq => simp [vwCl] at hq
  have hS : va_S (fun q : Nat => s.heap.size ≤ q) s.heap s.heap [] := va_S.rf
  have hP : va_P D vwCl [] s.heap := fun k q h => by simp at h
  have hD : va_D (fun q : Nat => s.heap.size ≤ q) [] := ⟨fun i j p q h => by simp at h, fun k q h => by simp at h⟩
  have hl := lv_entry ([.ref b]) (n := 7) (Nat.le_of_ble_eq_true rfl)
  rw [lg_entry_eq]
  generalize (lg_sl ([.ref b]) ++ List.replicate (7 - (lg_sl ([.ref b])).length) Slot.unset).toArray = ls at hl ⊢
  have hl : lv_has ls 7 [(0, .ref b)] := hl
  refine va_new (ci := 0) (fs := [.int 0, .int 0, .int 0, .int 0, .int 0, .int 0, .int 0, .int 0, .int 0, .null, .null]) (C := RX0) (T := TX0) (N := 11) hx hb hts inlX0 tyX0 tyX0_ok hown (hts (.classLink RL 37 RX0) (by decide +kernel)) (hts (.instantiable RX0 11) (by decide +kernel)) (hts (.initialized RX0) (by decide +kernel)) hK hP hD hS hA rfl (fun j hj => by rcases (show j = 0 ∨ j = 1 ∨ j = 2 ∨ j = 3 ∨ j = 4 ∨ j = 5 ∨ j = 6 ∨ j = 7 ∨ j = 8 ∨ j = 9 ∨ j = 10 by omega) with rfl | rfl | rfl | rfl | rfl | rfl | rfl | rfl | rfl | rfl | rfl <;> rfl) (Nat.le_of_ble_eq_true rfl) (Nat.le_of_ble_eq_true rfl) dL_law_0 (fun o H hP hD hS => ?_)
  have hP : va_P D vwCl [aw_new o] H := hP
  have hD : va_D (fun q : Nat => s.heap.size ≤ q) [aw_new o] := hD
  refine W.widen (k := 1) (n := 11) (by omega) (by omega) ?_
  refine lv_dup hx hb dL_law_3 rfl ?_
  have hPc := hP.sub (ws' := [aw_new o]) [0] rfl
  have hDc := hD.sub (ws' := [aw_new o]) [0] (by decide) rfl
  have hKc := hK.sub (tys' := []) [] rfl
  have hFc := va_free (wc := [aw_new o]) hD hS hA [0] rfl
  refine va_callv (va_runI (As := []) (rest := [.ref o]) ⟨hx, hb, hml, hown, hts⟩ (k_init l D o H.size) (cwI 0 hts gL_law_X0_init rfl rfl rfl (hts (.initialized RX0) (by decide +kernel)) (hts (.methodLink RL 101 yX0_init) (by decide +kernel)) (hts (.instanceMethod yX0_init) (by decide +kernel)) rfl (by decide +kernel) ⟨Nat.le_of_ble_eq_true rfl, Nat.le_of_ble_eq_true rfl⟩) ⟨fun a U gg mk q => by obtain ⟨q0, q1, qP, qK, qD⟩ := q; exact ⟨q0, q1, qP, va_K.moved (u := U) (U := U.calling gg mk a) (Vm.Alike.refl U.vm) qK, qD⟩, fun U hU hW => ⟨rfl, by rw [hU], by rw [hU]; exact hPc, va_K.moved hW.alike hKc, hDc.weaken (fun _ _ _ _ => trivial)⟩⟩ rfl rfl hl.1 rfl (lv_room (Nat.le_of_ble_eq_true rfl)) dL_law_4 ⟨Nat.le_of_ble_eq_true rfl, Nat.le_of_ble_eq_true rfl⟩) hS (fun q _ h => hFc q h) hFc (fun u t H1 locs ht hvm hw hB hz1 hk1 hS => ?_)
  obtain ⟨ob0, g0⟩ := u
  obtain ⟨yZ, yI, oa, ba, hP1, hK1, hD1⟩ := hB
  rw [ht] at hP1
  have hK1 := va_K.moved hvm.symm hK1
  have hob0 : ∀ z : Int, 0 ≤ z → z < 72 → ob0 z = false := hw
  obtain ⟨hP, hD⟩ := va_join (wr := []) (w1 := aw_W3 yZ yI o oa ba 4 12 1 (12 * 1) (zI 0) (zI 1) (zI 1) 1 0 ob0 g0) hP hD [0] [] rfl rfl (by decide) (by decide) hk1 hFc hP1 hD1
  have hK : va_K D vwCl (aw_T yZ yI) s := hK1
  generalize H1 = H at hP hS ⊢
  have hP : va_P D vwCl [(o, .inr (0, [.int (zI 4), .int (zI 12), .int (zI 1), .int (zI (12 * 1)), .int (zI 0), .int (zI 1), .int (zI 1), .int (zI 1), .int (zI 0), .ref oa, .ref ba])), (oa, .inl (yZ, 72, .inl (aw_f ob0))), (ba, .inl (yI, 72, .inl g0))] H := hP
  have hD : va_D (fun q : Nat => s.heap.size ≤ q) [(o, .inr (0, [.int (zI 4), .int (zI 12), .int (zI 1), .int (zI (12 * 1)), .int (zI 0), .int (zI 1), .int (zI 1), .int (zI 1), .int (zI 0), .ref oa, .ref ba])), (oa, .inl (yZ, 72, .inl (aw_f ob0))), (ba, .inl (yI, 72, .inl g0))] := hD
  refine W.widen (k := 3) (n := 155) (by omega) (by omega) ?_
  refine lv_astore_n (lv' := [(1, .ref o), (0, .ref b)]) hx hb dL_law_7 rfl hl (by decide) rfl (fun ls hl => ?_)
  refine zb_bipush hx hb dL_law_8 (by decide) ?_
  refine va_newa (atype := .int) (ty := .int) (n := zI 9) (N' := 9) (a0 := (9, .inl (fun _ => 0))) hx hb (hts (.arrayClass .int) (by decide +kernel)) rfl hK hP hD hS hA (fun _ => rfl) (by decide) (by decide) (by decide) (Nat.le_of_ble_eq_true rfl) (Nat.le_of_ble_eq_true rfl) dL_law_10 (fun da yD H hK hP hD hS => ?_)
  have hy : yD = yI := Option.some.inj ((hK.2 2 (yD, .int) rfl).2.symm.trans (hK.2 1 (yI, .int) rfl).2)
  subst hy
  have hK : va_K D vwCl (aw_T yZ yD) s := hK.sub [0, 1] rfl
  refine W.widen (k := 4) (n := 164) (by omega) (by omega) ?_
  refine lv_astore_n (lv' := [(2, .ref da), (1, .ref o), (0, .ref b)]) hx hb dL_law_12 rfl hl (by decide) rfl (fun ls hl => ?_)
  refine zb_iconst hx hb dL_law_13 ?_
  refine va_newa (atype := .int) (ty := .int) (n := zI 3) (N' := 3) (a0 := (3, .inl (fun _ => 0))) hx hb (hts (.arrayClass .int) (by decide +kernel)) rfl hK hP hD hS hA (fun _ => rfl) (by decide) (by decide) (by decide) (Nat.le_of_ble_eq_true rfl) (Nat.le_of_ble_eq_true rfl) dL_law_14 (fun pa yE H hK hP hD hS => ?_)
  have hy : yE = yD := Option.some.inj ((hK.2 2 (yE, .int) rfl).2.symm.trans (hK.2 1 (yD, .int) rfl).2)
  subst hy
  have hK : va_K D vwCl (aw_T yZ yE) s := hK.sub [0, 1] rfl
  refine W.widen (k := 5) (n := 167) (by omega) (by omega) ?_
  refine lv_astore_n (lv' := [(3, .ref pa), (2, .ref da), (1, .ref o), (0, .ref b)]) hx hb dL_law_16 rfl hl (by decide) rfl (fun ls hl => ?_)
  have e0 : aw_d (fun _ => 0) = fun _ => 0 := by funext j; show zI 0 = 0; decide
  rw [show (fun (_ : Nat) => (0 : Int32)) = aw_d (fun _ => 0) from e0.symm] at hP hD
  obtain ⟨yI, hyI⟩ : ∃ y, y = yE := ⟨_, rfl⟩
  subst hyI
  have hu0 : aw_p5 ((aw_ud (aw_ud (aw_ud (aw_ud (aw_ud (aw_ud (aw_ud (fun _ => 0) 0 4) 1 12) 2 1) 3 12) 5 1) 6 1) 7 1, fun _ => 0, ob0, (zI 0, zI 1, zI 1), g0) : aw_S5) := ⟨(show aw_In 4 12 1 12 1 0 from by unfold aw_In; decide), aw_OB_0 (fun j _ => zI_0.symm) hob0⟩
  refine lv_aload_n hx hb dL_law_17 rfl (lv_at hl 1 rfl) ?_
  refine aw_callMS (As := [.ref da]) (rest := []) (wc := [aw_Dr yI da ((fun _ => 0))]) (wr := [(o, .inr (0, [.int (zI 4), .int (zI 12), .int (zI 1), .int (zI (12 * 1)), .int (zI 0), .int (zI 1), .int (zI 1), .int (zI 1), .int (zI 0), .ref oa, .ref ba])), (oa, .inl (yZ, 72, .inl (aw_f ob0))), (ba, .inl (yI, 72, .inl g0)), aw_Mr yI pa ((fun _ => 0))]) (ws2 := fun u => [(o, .inr (0, [.int (zI 4), .int (zI 12), .int (zI 1), .int (zI (12 * 1)), .int (zI 0), .int (zI 1), .int (zI 1), .int (zI 1), .int (zI 0), .ref oa, .ref ba])), (oa, .inl (yZ, 72, .inl (aw_f ob0))), (ba, .inl (yI, 72, .inl g0)), aw_Dr yI da (aw_ud (aw_ud (aw_ud (aw_ud (aw_ud (aw_ud (aw_ud (fun _ => 0) 0 4) 1 12) 2 1) 3 12) 5 1) 6 1) 7 1), aw_Mr yI pa ((fun _ => 0))]) ⟨hx, hb, hml, hown, hts⟩ (k_begin (dv := fun _ => 0)) (va_cwS 1 hts gL_law_L_begin rfl rfl rfl (by decide +kernel) ⟨Nat.le_of_ble_eq_true rfl, Nat.le_of_ble_eq_true rfl⟩) hP hD hK hS hA [3] [0, 1, 2, 4] rfl rfl (by decide) (by decide) (by decide) [0, 1, 2, 4, 3] (by decide) (fun _ => rfl) rfl hl.1 rfl (Nat.le_of_ble_eq_true rfl) dL_law_18 ⟨Nat.le_of_ble_eq_true rfl, Nat.le_of_ble_eq_true rfl⟩ (fun u H locs hu hP hD hS => ?_)
  have hP : va_P D vwCl [(o, .inr (0, [.int (zI 4), .int (zI 12), .int (zI 1), .int (zI (12 * 1)), .int (zI 0), .int (zI 1), .int (zI 1), .int (zI 1), .int (zI 0), .ref oa, .ref ba])), (oa, .inl (yZ, 72, .inl (aw_f ob0))), (ba, .inl (yI, 72, .inl g0)), aw_Dr yI da (aw_ud (aw_ud (aw_ud (aw_ud (aw_ud (aw_ud (aw_ud (fun _ => 0) 0 4) 1 12) 2 1) 3 12) 5 1) 6 1) 7 1), aw_Mr yI pa ((fun _ => 0))] H := hP
  have hD : va_D _ [(o, .inr (0, [.int (zI 4), .int (zI 12), .int (zI 1), .int (zI (12 * 1)), .int (zI 0), .int (zI 1), .int (zI 1), .int (zI 1), .int (zI 0), .ref oa, .ref ba])), (oa, .inl (yZ, 72, .inl (aw_f ob0))), (ba, .inl (yI, 72, .inl g0)), aw_Dr yI da (aw_ud (aw_ud (aw_ud (aw_ud (aw_ud (aw_ud (aw_ud (fun _ => 0) 0 4) 1 12) 2 1) 3 12) 5 1) 6 1) 7 1), aw_Mr yI pa ((fun _ => 0))] := hD
  refine W.eq (g2 := F0 m 21 ls []) rfl ?_
  refine zb_iconst hx hb dL_law_21 ?_
  refine lv_istore (lv' := [(4, .int (zI 0)), (3, .ref pa), (2, .ref da), (1, .ref o), (0, .ref b)]) hx hb dL_law_22 hl (by decide) rfl (fun ls hl => ?_)
  refine zb_lpm (nL := 7) (τ := aw_S5) (fun k u => 0 ≤ k ∧ k ≤ 30 ∧ aw_p5 u) (fun k => [(4, .int (zI k)), (3, .ref pa), (2, .ref da), (1, .ref o), (0, .ref b)]) (fun u => aw_w5 yZ yI o oa ba da pa u) (fun k => 30 - k) 0 ((aw_ud (aw_ud (aw_ud (aw_ud (aw_ud (aw_ud (aw_ud (fun _ => 0) 0 4) 1 12) 2 1) 3 12) 5 1) 6 1) 7 1, fun _ => 0, ob0, (zI 0, zI 1, zI 1), g0) : aw_S5) ⟨by omega, by omega, hu0⟩ (lv_sub hl [0, 1, 2, 3, 4] rfl) hP hD hS ?_
  intro k u H locs ls hJ hl hP hD hS ih
  obtain ⟨dv, pf, ob, ⟨ty, px, pr⟩, g⟩ := u
  obtain ⟨hk0, hk1, hI, hO⟩ := hJ
  have hI : aw_In (dv 0) (dv 1) (dv 2) (dv 3) (dv 7) (dv 8) := hI
  have hO : aw_OB pf ob := hO
  have hl : lv_has ls 7 [(4, .int (zI k)), (3, .ref pa), (2, .ref da), (1, .ref o), (0, .ref b)] := hl
  have hP : va_P D vwCl [(o, .inr (0, [.int (zI (dv 0)), .int (zI (dv 1)), .int (zI (dv 2)), .int (zI (dv 3)), .int ty, .int px, .int pr, .int (zI (dv 7)), .int (zI (dv 8)), .ref oa, .ref ba])), (oa, .inl (yZ, 72, .inl (aw_f ob))), (ba, .inl (yI, 72, .inl g)), aw_Dr yI da dv, aw_Mr yI pa pf] H := hP
  have hD : va_D _ [(o, .inr (0, [.int (zI (dv 0)), .int (zI (dv 1)), .int (zI (dv 2)), .int (zI (dv 3)), .int ty, .int px, .int pr, .int (zI (dv 7)), .int (zI (dv 8)), .ref oa, .ref ba])), (oa, .inl (yZ, 72, .inl (aw_f ob))), (ba, .inl (yI, 72, .inl g)), aw_Dr yI da dv, aw_Mr yI pa pf] := hD
  refine lv_iload hx hb dL_law_24 (lv_at hl 0 rfl) ?_
  refine zb_bipush hx hb dL_law_26 (by decide) ?_
  refine zb_cge (tgt := 105) hx hb dL_law_28 (by decide) (by omega) (by omega) (fun c28 => ?_) (fun c28 => ?_)
  · skip
    refine lv_aload_n hx hb dL_law_105 rfl (lv_at hl 3 rfl) ?_
    refine lv_aload_n hx hb dL_law_106 rfl (lv_at hl 2 rfl) ?_
    refine lv_aload_n hx hb dL_law_107 rfl (lv_at hl 1 rfl) ?_
    refine aw_callS (As := [.ref o, .ref da, .ref pa]) (rest := []) ⟨hx, hb, hml, hown, hts⟩ (k_circuits hI hO) (va_cwS 3 hts gL_law_L_circuits rfl rfl rfl (by decide +kernel) ⟨Nat.le_of_ble_eq_true rfl, Nat.le_of_ble_eq_true rfl⟩) hP hK rfl hl.1 rfl (Nat.le_of_ble_eq_true rfl) dL_law_108 ⟨Nat.le_of_ble_eq_true rfl, Nat.le_of_ble_eq_true rfl⟩ ?_
    refine zb_ieq (tgt := 127) hx hb dL_law_111 (by decide) (by omega) (fun c111 => absurd c111 (by omega)) (fun c111 => ?_)
    refine lv_aload_n hx hb dL_law_114 rfl (lv_at hl 3 rfl) ?_
    refine lv_aload_n hx hb dL_law_115 rfl (lv_at hl 2 rfl) ?_
    refine lv_aload_n hx hb dL_law_116 rfl (lv_at hl 1 rfl) ?_
    refine aw_callS (As := [.ref o, .ref da, .ref pa]) (rest := []) ⟨hx, hb, hml, hown, hts⟩ (k_coils hI hO) (va_cwS 3 hts gL_law_L_coils rfl rfl rfl (by decide +kernel) ⟨Nat.le_of_ble_eq_true rfl, Nat.le_of_ble_eq_true rfl⟩) hP hK rfl hl.1 rfl (Nat.le_of_ble_eq_true rfl) dL_law_117 ⟨Nat.le_of_ble_eq_true rfl, Nat.le_of_ble_eq_true rfl⟩ ?_
    refine zb_ieq (tgt := 127) hx hb dL_law_120 (by decide) (by omega) (fun c120 => absurd c120 (by omega)) (fun c120 => ?_)
    refine zb_iconst hx hb dL_law_123 ?_
    refine lv_goto (tgt := 128) hx hb dL_law_124 (by decide) ?_
    refine zb_to (w := .int 1) (by decide) ?_
    refine va_forget (fun q hq => hS.2.2 q hq) ?_
    exact lw_ret hx hb hr hlocks dL_law_128
  · skip
    refine lv_aload_n hx hb dL_law_31 rfl (lv_at hl 4 rfl) ?_
    refine zb_iconst hx hb dL_law_32 ?_
    refine lv_iload hx hb dL_law_33 (lv_at hl 0 rfl) ?_
    refine zb_mul hx hb dL_law_35 ?_
    have hXH36 : va_X b L xs s H := hX.kept (hS.2.1 b hbl hbA)
    refine aw_run (va_runS (As := [.ref b, .int (zI (2 * k))]) (rest := []) ⟨hx, hb, hml, hown, hts⟩ (k_cell (b := b) (L := L) (xs := xs) (k := 2 * k) (by omega) ⟨by omega, by omega⟩) (va_cwS 2 hts gL_law_L_cell rfl rfl rfl (by decide +kernel) ⟨Nat.le_of_ble_eq_true rfl, Nat.le_of_ble_eq_true rfl⟩) ⟨fun a U gg mk q => ⟨q.1, va_X.moved (u := U) (U := U.calling gg mk a) (Vm.Alike.refl U.vm) q.2⟩, fun U hU hW => ⟨rfl, by show va_X b L xs U U.heap; rw [hU]; exact va_X.moved hW.alike hXH36⟩⟩ rfl rfl hl.1 rfl (lv_room (Nat.le_of_ble_eq_true rfl)) dL_law_36 ⟨Nat.le_of_ble_eq_true rfl, Nat.le_of_ble_eq_true rfl⟩) ?_
    refine zb_nm (fun x1 e_x1 => ?_)
    have hx1 : 0 ≤ x1 ∧ x1 < 2147483648 := by rw [e_x1]; exact aw_ce_in _ _ _
    refine lv_istore (lv' := [(5, .int (zI x1)), (4, .int (zI k)), (3, .ref pa), (2, .ref da), (1, .ref o), (0, .ref b)]) hx hb dL_law_39 hl (by decide) rfl (fun ls hl => ?_)
    refine lv_aload_n hx hb dL_law_41 rfl (lv_at hl 5 rfl) ?_
    refine zb_iconst hx hb dL_law_42 ?_
    refine lv_iload hx hb dL_law_43 (lv_at hl 1 rfl) ?_
    refine zb_mul hx hb dL_law_45 ?_
    refine zb_iconst hx hb dL_law_46 ?_
    refine zb_add hx hb dL_law_47 ?_
    have hXH48 : va_X b L xs s H := hX.kept (hS.2.1 b hbl hbA)
    refine aw_run (va_runS (As := [.ref b, .int (zI (2 * k + 1))]) (rest := []) ⟨hx, hb, hml, hown, hts⟩ (k_cell (b := b) (L := L) (xs := xs) (k := 2 * k + 1) (by omega) ⟨by omega, by omega⟩) (va_cwS 2 hts gL_law_L_cell rfl rfl rfl (by decide +kernel) ⟨Nat.le_of_ble_eq_true rfl, Nat.le_of_ble_eq_true rfl⟩) ⟨fun a U gg mk q => ⟨q.1, va_X.moved (u := U) (U := U.calling gg mk a) (Vm.Alike.refl U.vm) q.2⟩, fun U hU hW => ⟨rfl, by show va_X b L xs U U.heap; rw [hU]; exact va_X.moved hW.alike hXH48⟩⟩ rfl rfl hl.1 rfl (lv_room (Nat.le_of_ble_eq_true rfl)) dL_law_48 ⟨Nat.le_of_ble_eq_true rfl, Nat.le_of_ble_eq_true rfl⟩) ?_
    refine zb_nm (fun y1 e_y1 => ?_)
    have hy1 : 0 ≤ y1 ∧ y1 < 2147483648 := by rw [e_y1]; exact aw_ce_in _ _ _
    refine lv_istore (lv' := [(6, .int (zI y1)), (5, .int (zI x1)), (4, .int (zI k)), (3, .ref pa), (2, .ref da), (1, .ref o), (0, .ref b)]) hx hb dL_law_51 hl (by decide) rfl (fun ls hl => ?_)
    refine lv_aload_n hx hb dL_law_53 rfl (lv_at hl 5 rfl) ?_
    refine lv_aload_n hx hb dL_law_54 rfl (lv_at hl 4 rfl) ?_
    refine lv_aload_n hx hb dL_law_55 rfl (lv_at hl 3 rfl) ?_
    refine aw_callS (As := [.ref o, .ref da, .ref pa]) (rest := []) ⟨hx, hb, hml, hown, hts⟩ (k_circuits hI hO) (va_cwS 3 hts gL_law_L_circuits rfl rfl rfl (by decide +kernel) ⟨Nat.le_of_ble_eq_true rfl, Nat.le_of_ble_eq_true rfl⟩) hP hK rfl hl.1 rfl (Nat.le_of_ble_eq_true rfl) dL_law_56 ⟨Nat.le_of_ble_eq_true rfl, Nat.le_of_ble_eq_true rfl⟩ ?_
    refine zb_ieq (tgt := 97) hx hb dL_law_59 (by decide) (by omega) (fun c59 => absurd c59 (by omega)) (fun c59 => ?_)
    refine lv_aload_n hx hb dL_law_62 rfl (lv_at hl 5 rfl) ?_
    refine lv_aload_n hx hb dL_law_63 rfl (lv_at hl 4 rfl) ?_
    refine lv_aload_n hx hb dL_law_64 rfl (lv_at hl 3 rfl) ?_
    refine aw_callS (As := [.ref o, .ref da, .ref pa]) (rest := []) ⟨hx, hb, hml, hown, hts⟩ (k_coils hI hO) (va_cwS 3 hts gL_law_L_coils rfl rfl rfl (by decide +kernel) ⟨Nat.le_of_ble_eq_true rfl, Nat.le_of_ble_eq_true rfl⟩) hP hK rfl hl.1 rfl (Nat.le_of_ble_eq_true rfl) dL_law_65 ⟨Nat.le_of_ble_eq_true rfl, Nat.le_of_ble_eq_true rfl⟩ ?_
    refine zb_ieq (tgt := 97) hx hb dL_law_68 (by decide) (by omega) (fun c68 => absurd c68 (by omega)) (fun c68 => ?_)
    refine lv_aload_n hx hb dL_law_71 rfl (lv_at hl 5 rfl) ?_
    refine lv_iload hx hb dL_law_72 (lv_at hl 0 rfl) ?_
    refine zb_bipush hx hb dL_law_74 (by decide) ?_
    refine zb_rem hx hb dL_law_76 (by omega) (by omega) ?_
    refine lv_aload_n hx hb dL_law_77 rfl (lv_at hl 4 rfl) ?_
    refine aw_callS (As := [.ref o, .int (zI (y1 % 70)), .ref da]) (rest := []) ⟨hx, hb, hml, hown, hts⟩ (k_sums (pa := pa) (pf := pf) (t := y1 % 70) hI ⟨by omega, by omega⟩) (va_cwS 3 hts gL_law_L_sums rfl rfl rfl (by decide +kernel) ⟨Nat.le_of_ble_eq_true rfl, Nat.le_of_ble_eq_true rfl⟩) hP hK rfl hl.1 rfl (Nat.le_of_ble_eq_true rfl) dL_law_78 ⟨Nat.le_of_ble_eq_true rfl, Nat.le_of_ble_eq_true rfl⟩ ?_
    refine zb_ieq (tgt := 97) hx hb dL_law_81 (by decide) (by omega) (fun c81 => absurd c81 (by omega)) (fun c81 => ?_)
    refine lv_aload_n hx hb dL_law_84 rfl (lv_at hl 5 rfl) ?_
    refine lv_iload hx hb dL_law_85 (lv_at hl 1 rfl) ?_
    refine lv_iload hx hb dL_law_87 (lv_at hl 0 rfl) ?_
    refine lv_aload_n hx hb dL_law_89 rfl (lv_at hl 4 rfl) ?_
    refine lv_aload_n hx hb dL_law_90 rfl (lv_at hl 3 rfl) ?_
    refine aw_callMS (As := [.ref o, .int (zI x1), .int (zI y1), .ref da, .ref pa]) (rest := []) (wc := [(o, .inr (0, [.int (zI (dv 0)), .int (zI (dv 1)), .int (zI (dv 2)), .int (zI (dv 3)), .int ty, .int px, .int pr, .int (zI (dv 7)), .int (zI (dv 8)), .ref oa, .ref ba])), (oa, .inl (yZ, 72, .inl (aw_f ob))), (ba, .inl (yI, 72, .inl g)), aw_Dr yI da dv, aw_Mr yI pa pf]) (wr := []) (ws2 := fun u => [(o, .inr (0, [.int (zI (u.1 0)), .int (zI (u.1 1)), .int (zI (u.1 2)), .int (zI (u.1 3)), .int (u.2.2.2.1.1), .int (u.2.2.2.1.2.1), .int (u.2.2.2.1.2.2), .int (zI (u.1 7)), .int (zI (u.1 8)), .ref oa, .ref ba])), (oa, .inl (yZ, 72, .inl (aw_f (u.2.2.1)))), (ba, .inl (yI, 72, .inl (u.2.2.2.2))), aw_Dr yI da (u.1), aw_Mr yI pa (u.2.1)]) ⟨hx, hb, hml, hown, hts⟩ (k_changes (x := x1) (y := y1) hI hO hx1 hy1) (va_cwS 5 hts gL_law_L_changes rfl rfl rfl (by decide +kernel) ⟨Nat.le_of_ble_eq_true rfl, Nat.le_of_ble_eq_true rfl⟩) hP hD hK hS hA [0, 1, 2, 3, 4] [] rfl rfl (by decide) (by decide) (by decide) [0, 1, 2, 3, 4] (by decide) (fun _ => rfl) rfl hl.1 rfl (Nat.le_of_ble_eq_true rfl) dL_law_91 ⟨Nat.le_of_ble_eq_true rfl, Nat.le_of_ble_eq_true rfl⟩ (fun u H locs hu hP hD hS => ?_)
    obtain ⟨dv2, pf2, ob2, ⟨ty2, px2, pr2⟩, g2⟩ := u
    have hP : va_P D vwCl [(o, .inr (0, [.int (zI (dv2 0)), .int (zI (dv2 1)), .int (zI (dv2 2)), .int (zI (dv2 3)), .int ty2, .int px2, .int pr2, .int (zI (dv2 7)), .int (zI (dv2 8)), .ref oa, .ref ba])), (oa, .inl (yZ, 72, .inl (aw_f ob2))), (ba, .inl (yI, 72, .inl g2)), aw_Dr yI da dv2, aw_Mr yI pa pf2] H := hP
    have hD : va_D _ [(o, .inr (0, [.int (zI (dv2 0)), .int (zI (dv2 1)), .int (zI (dv2 2)), .int (zI (dv2 3)), .int ty2, .int px2, .int pr2, .int (zI (dv2 7)), .int (zI (dv2 8)), .ref oa, .ref ba])), (oa, .inl (yZ, 72, .inl (aw_f ob2))), (ba, .inl (yI, 72, .inl g2)), aw_Dr yI da dv2, aw_Mr yI pa pf2] := hD
    refine W.eq (g2 := F0 m 94 ls [.int (zI 1)]) rfl ?_
    refine zb_ine (tgt := 99) hx hb dL_law_94 (by decide) (by omega) (fun c94 => ?_) (fun c94 => absurd c94 (by omega))
    refine zb_iinc (lv' := [(4, .int (zI (k + 1))), (6, .int (zI y1)), (5, .int (zI x1)), (3, .ref pa), (2, .ref da), (1, .ref o), (0, .ref b)]) hx hb dL_law_99 hl (k := 2) rfl (by decide) rfl (fun ls hl => ?_)
    refine lv_goto (tgt := 24) hx hb dL_law_102 (by decide) ?_
    exact ih (k + 1) (dv2, pf2, ob2, (ty2, px2, pr2), g2) H locs ls ⟨by omega, by omega, hu⟩ ⟨by omega, by omega⟩ (lv_sub hl [0, 3, 4, 5, 6] rfl) hP hD hS
