/-! a method that writes cells of its world and makes none: post says what is known of what it leaves (u), ws' u are the cells behind it -/
def aw_QM {S : Type} (v : Option Int) (post : S → Prop) (ws' : S → va_W) (D : va_G) (tys : List (ClassId × FieldType)) (ws : va_W) (sz : Nat) : Array Value → State → Outcome → State → Prop := fun _ st oc t =>
  oc = .returned (v.map fun z => Value.int (zI z)) ∧ (∃ u : S, post u ∧ va_P D vwCl (ws' u) t.heap ∧ va_K D vwCl tys t ∧ va_D (va_A ws sz) (ws' u)) ∧ va_F (va_A ws sz) st t
def aw_PcM (D : va_G) (tys : List (ClassId × FieldType)) (ws : va_W) (sz : Nat) (av : List Value) : Array Value → State → Prop := va_Pc av (fun U => U.heap.size = sz ∧ va_P D vwCl ws U.heap ∧ va_K D vwCl tys U ∧ va_D (fun _ => True) ws)
def aw_MU {S : Type} (l : Launch) (y : MethodName) (wds : List Cond) (rm : Room) (D : va_G) (tys : List (ClassId × FieldType)) (ws : va_W) (av : List Value) (v : Option Int) (post : S → Prop) (ws' : S → va_W) : Prop :=
  ∀ sz : Nat, Met l y wds rm (aw_PcM D tys ws sz av) (aw_QM v post ws' D tys ws sz) 0 0 (va_A ws sz)
theorem aw_blindM {D : va_G} {tys : List (ClassId × FieldType)} {ws : va_W} {sz : Nat} {av : List Value} : FrameBlind (aw_PcM D tys ws sz av) := fun a U g mk q => by
  obtain ⟨q1, q2, q3, q4, q5⟩ := q
  exact ⟨q1, q2, q3, va_K.moved (u := U) (U := U.calling g mk a) (Vm.Alike.refl U.vm) q4, q5⟩
theorem aw_fm {α β : Type} (f : α → Option β) : ∀ (is : List α) (ws : List β), is.map f = ws.map some → is.filterMap f = ws := by
  intro is
  induction is with
  | nil => intro ws h; cases ws with
    | nil => rfl
    | cons a ws => cases h
  | cons i is ih => intro ws h; cases ws with
    | nil => cases h
    | cons a ws =>
      simp only [List.map_cons, List.cons.injEq] at h
      rw [List.filterMap_cons, h.1, ih ws h.2]
def aw_up (ob : Int → Bool) (x : Int) (bv : Bool) : Int → Bool := fun z => if z = x then bv else ob z
def aw_ud (dv : Nat → Int) (k : Nat) (v : Int) : Nat → Int := fun j => if j = k then v else dv j
section AM
variable {p : Program} {l : Launch} {e : Env} {R : Room} {s : State} {m : MethodId} {args : Array Value} {below : List Frame} {meth : Method} {c : Code} {H : Heap} {locs : List Loc} {cells slots : Nat} {Q : State → Prop}
variable {cc bytes : ByteArray} {pc nL n index maxL : Nat} {ls : Array Slot} {rest As st0 : List Value} {D : va_G} {tys : List (ClassId × FieldType)} {y : MethodName} {wds Ts : List Cond} {rm : Room} {own : String} {ret : Option FieldType} {yI yZ : ClassId}
variable {S : Type} {v : Option Int} {post : S → Prop} {ws' ws2 : S → va_W} {A0 : Nat → Prop} {H0 : Heap} {wsC wc wr : va_W}
theorem aw_runM {a2 : Array Value} (hr : va_Run p l e R s m args below meth c H locs cells slots 0 0 (F0 m pc ls st0) rest (aw_QM v post ws' D tys wc H.size a2) (va_A wc H.size))
    (hP : va_P D vwCl wsC H) (hD : va_D A0 wsC) (hS : va_S A0 H0 H locs) (hA : ∀ q, H0.size ≤ q → A0 q) (isC isR : List Nat) (hC : isC.map (fun i => wsC[i]?) = wc.map some) (hR : isR.map (fun i => wsC[i]?) = wr.map some) (hn : va_nd isR = true) (hdis : ∀ i ∈ isR, i ∉ isC)
    (is2 : List Nat) (hn2 : va_nd is2 = true) (h2 : ∀ u, is2.map (fun i => (wr ++ ws' u)[i]?) = (ws2 u).map some)
    (kk : ∀ (u : S) (H1 : Heap) (locs1 : List Loc), post u → va_P D vwCl (ws2 u) H1 → va_D A0 (ws2 u) → va_S A0 H0 H1 locs1 → W p l e R s m args below meth c H1 locs1 cells slots Q (F0 m (pc + 3) ls ((v.map fun z => Value.int (zI z)).toList ++ rest))) : W p l e R s m args below meth c H locs cells slots Q (F0 m pc ls st0) := by
  have hF := va_free (wc := wc) hD hS hA isC hC
  intro T hT X
  obtain ⟨v', st₀, t, T', L, h0, X', hL, e1, e2, ⟨hv, ⟨u, hu, hp, hk, hd⟩, hz, hkk⟩, st⟩ := hr T hT X
  cases hv
  rw [h0] at hz hkk
  have hk1 : ∀ q : Nat, q < H.size → ¬ va_A wc H.size q → T'.heap[q]? = H[q]? := fun q h1 h2 => by rw [e1]; exact hkk q h1 h2
  rw [← e1] at hp
  obtain ⟨hP1, hD1⟩ := va_join hP hD isC isR hC hR hn hdis hk1 hF hp hd
  obtain ⟨t2, a1, b1⟩ := kk u T'.heap (locs ++ L) hu (hP1.sub is2 (aw_fm _ _ _ (h2 u))) (hD1.sub is2 hn2 (h2 u))
    ⟨Nat.le_trans hS.1 (by rw [e1]; exact hz), fun q h1 h2 => by rw [hk1 q (Nat.lt_of_lt_of_le h1 hS.1) (fun z => h2 (hF q z))]; exact hS.2.1 q h1 h2, fun q hq => by
      rcases List.mem_append.mp hq with h | h
      · exact hS.2.2 q h
      · exact hF _ (hL q h)⟩ T' rfl X'
  exact ⟨t2, st t2 a1, b1⟩
theorem aw_callMV {b ci : Nat} {q : vw_C} {fs : List Value} (F : CallFix p m c cc nL s args Ts own) (hM : aw_MU l y wds rm D tys wc (.ref b :: As) v post ws') (cw : CallW R s args own q.1 index y bytes maxL ret wds rm 0 0 n) (hP : va_P D vwCl wsC H) (hD : va_D A0 wsC) (hK : va_K D vwCl tys s) (hS : va_S A0 H0 H locs) (hA : ∀ q, H0.size ≤ q → A0 q) (hc : vwCl[ci]? = some q) (he : wc[0]? = some (b, .inr (ci, fs)))
    (isC isR : List Nat) (hC : isC.map (fun i => wsC[i]?) = wc.map some) (hR : isR.map (fun i => wsC[i]?) = wr.map some) (hnC : va_nd isC = true) (hnR : va_nd isR = true) (hdis : ∀ i ∈ isR, i ∉ isC) (is2 : List Nat) (hn2 : va_nd is2 = true) (h2 : ∀ u, is2.map (fun i => (wr ++ ws' u)[i]?) = (ws2 u).map some)
    (hn : As.length = n) (hsize : ls.size = nL) (hst : st0 = As.reverse ++ .ref b :: rest) (hW : (rest.map fun v => v.category).sum ≤ 8) (hdg : decode cc pc = .ok (.invokevirtual index, 3)) (hcs : cells ≤ R.cells ∧ slots ≤ R.slots)
    (kk : ∀ (u : S) (H1 : Heap) (locs1 : List Loc), post u → va_P D vwCl (ws2 u) H1 → va_D A0 (ws2 u) → va_S A0 H0 H1 locs1 → W p l e R s m args below meth c H1 locs1 cells slots Q (F0 m (pc + 3) ls ((v.map fun z => Value.int (zI z)).toList ++ rest))) : W p l e R s m args below meth c H locs cells slots Q (F0 m pc ls st0) :=
  have hPc := hP.sub (ws' := wc) isC (aw_fm _ _ _ hC)
  have hDc := hD.sub (ws' := wc) isC hnC hC
  aw_runM (va_runV F (hM H.size) cw ⟨aw_blindM, va_recv hK hPc hc he, fun U hU hW => ⟨rfl, by rw [hU], by rw [hU]; exact hPc, va_K.moved hW.alike hK, hDc.weaken (fun _ _ _ _ => trivial)⟩⟩ rfl hn hsize hst (lv_room hW) hdg hcs) hP hD hS hA isC isR hC hR hnR hdis is2 hn2 h2 kk
theorem aw_callMS (F : CallFix p m c cc nL s args Ts own) (hM : aw_MU l y wds rm D tys wc As v post ws') (cw : CallB R s args own index y bytes maxL ret wds rm 0 0 n ∧ (Cond.static y).before args s = true) (hP : va_P D vwCl wsC H) (hD : va_D A0 wsC) (hK : va_K D vwCl tys s) (hS : va_S A0 H0 H locs) (hA : ∀ q, H0.size ≤ q → A0 q)
    (isC isR : List Nat) (hC : isC.map (fun i => wsC[i]?) = wc.map some) (hR : isR.map (fun i => wsC[i]?) = wr.map some) (hnC : va_nd isC = true) (hnR : va_nd isR = true) (hdis : ∀ i ∈ isR, i ∉ isC) (is2 : List Nat) (hn2 : va_nd is2 = true) (h2 : ∀ u, is2.map (fun i => (wr ++ ws' u)[i]?) = (ws2 u).map some)
    (hn : As.length = n) (hsize : ls.size = nL) (hst : st0 = As.reverse ++ rest) (hW : (rest.map fun v => v.category).sum ≤ 8) (hdg : decode cc pc = .ok (.invokestatic index, 3)) (hcs : cells ≤ R.cells ∧ slots ≤ R.slots)
    (kk : ∀ (u : S) (H1 : Heap) (locs1 : List Loc), post u → va_P D vwCl (ws2 u) H1 → va_D A0 (ws2 u) → va_S A0 H0 H1 locs1 → W p l e R s m args below meth c H1 locs1 cells slots Q (F0 m (pc + 3) ls ((v.map fun z => Value.int (zI z)).toList ++ rest))) : W p l e R s m args below meth c H locs cells slots Q (F0 m pc ls st0) :=
  have hPc := hP.sub (ws' := wc) isC (aw_fm _ _ _ hC)
  have hDc := hD.sub (ws' := wc) isC hnC hC
  aw_runM (va_runS F (hM H.size) cw ⟨aw_blindM, fun U hU hW => ⟨rfl, by rw [hU], by rw [hU]; exact hPc, va_K.moved hW.alike hK, hDc.weaken (fun _ _ _ _ => trivial)⟩⟩ rfl hn hsize hst (lv_room hW) hdg hcs) hP hD hS hA isC isR hC hR hnR hdis is2 hn2 h2 kk
/-! the ends -/
variable {ws : va_W}
theorem aw_iretM {z w : Int} (u : S) (hx : p.tables.exec = Jvm.exec) (hb : c.code = cc) (hr : meth.sig.returnType = some .int) (hlocks : meth.locks = false) (hdg : decode cc pc = .ok (.ireturn, 1)) (hvw : w = z) (hu : post u) (hP : va_P D vwCl (ws' u) H) (hK : va_K D vwCl tys s) (hD : va_D (va_A ws s.heap.size) (ws' u)) (hS : va_S (va_A ws s.heap.size) s.heap H locs) : W p l e R s m args below meth c H locs cells slots (MQ below (aw_QM (some z) post ws' D tys ws s.heap.size) args s cells slots (va_A ws s.heap.size)) (F0 m pc ls [.int (zI w)]) :=
  W.iret hx hb hr (fun t ht hW => ⟨by rw [hvw]; rfl, ⟨u, hu, by rw [ht]; exact hP, va_K.moved hW.alike hK, hD⟩, hS.F ht⟩) hS.2.2 hdg hlocks
theorem aw_zretM {z w : Int} (u : S) (hx : p.tables.exec = Jvm.exec) (hb : c.code = cc) (hr : meth.sig.returnType = some .boolean) (hlocks : meth.locks = false) (hdg : decode cc pc = .ok (.ireturn, 1)) (h01 : w = 0 ∨ w = 1) (hvw : w = z) (hu : post u) (hP : va_P D vwCl (ws' u) H) (hK : va_K D vwCl tys s) (hD : va_D (va_A ws s.heap.size) (ws' u)) (hS : va_S (va_A ws s.heap.size) s.heap H locs) : W p l e R s m args below meth c H locs cells slots (MQ below (aw_QM (some z) post ws' D tys ws s.heap.size) args s cells slots (va_A ws s.heap.size)) (F0 m pc ls [.int (zI w)]) :=
  W.zret hx hb hr (by rcases h01 with rfl | rfl <;> decide) (fun t ht hW => ⟨by rw [hvw]; rfl, ⟨u, hu, by rw [ht]; exact hP, va_K.moved hW.alike hK, hD⟩, hS.F ht⟩) hS.2.2 hdg hlocks
theorem aw_vretM (u : S) (hx : p.tables.exec = Jvm.exec) (hb : c.code = cc) (hr : meth.sig.returnType = none) (hlocks : meth.locks = false) (hdg : decode cc pc = .ok (.return_, 1)) (hu : post u) (hP : va_P D vwCl (ws' u) H) (hK : va_K D vwCl tys s) (hD : va_D (va_A ws s.heap.size) (ws' u)) (hS : va_S (va_A ws s.heap.size) s.heap H locs) : W p l e R s m args below meth c H locs cells slots (MQ below (aw_QM none post ws' D tys ws s.heap.size) args s cells slots (va_A ws s.heap.size)) (F0 m pc ls []) :=
  W.vret hx hb hr (fun t ht hW => ⟨rfl, ⟨u, hu, by rw [ht]; exact hP, va_K.moved hW.alike hK, hD⟩, hS.F ht⟩) hS.2.2 hdg hlocks
/-! stores -/
theorem aw_zst (hx : p.tables.exec = Jvm.exec) (hb : c.code = cc) (hK : va_K D vwCl tys s) (hP : va_P D vwCl ws H) (hD : va_D A0 ws) (hS : va_S A0 H0 H locs) (q0 t0 : Nat) {a : Nat} {ob : Int → Bool} (ha : ws[q0]? = some (a, .inl (yZ, 72, .inl (aw_f ob)))) (ht : tys[t0]? = some (yZ, .boolean)) {x : Int} (bv : Bool) (h0 : 0 ≤ x) (h1 : x < 72) (hdg : decode cc pc = .ok (.bastore, 1))
    (kk : ∀ (H1 : Heap) (locs1 : List Loc), va_P D vwCl (ws.set q0 (a, .inl (yZ, 72, .inl (aw_f (aw_up ob x bv))))) H1 → va_D A0 (ws.set q0 (a, .inl (yZ, 72, .inl (aw_f (aw_up ob x bv))))) → va_S A0 H0 H1 locs1 → W p l e R s m args below meth c H1 locs1 cells slots Q (F0 m (pc + 1) ls rest)) : W p l e R s m args below meth c H locs cells slots Q (F0 m pc ls (.int (zI (aw_b bv)) :: .int (zI x) :: .ref a :: rest)) := by
  have he : upd (aw_f ob) (zI x).toNatClampNeg (vp_nar .boolean (zI (aw_b bv))) = aw_f (aw_up ob x bv) := by
    rw [zI_clamp (by omega)]
    funext j
    have hn : vp_nar .boolean (zI (aw_b bv)) = zI (aw_b bv) := by cases bv <;> decide
    unfold upd aw_f aw_up
    by_cases hj : j = x.toNat
    · subst hj
      rw [if_pos rfl, if_pos (by omega), hn]
    · rw [if_neg hj, if_neg (by omega)]
  refine va_zast hx hb hK hP hD hS q0 t0 ha ht (zI_in h0 (by omega) (by omega)) hdg ?_
  rw [he]
  exact kk
theorem aw_dst (hx : p.tables.exec = Jvm.exec) (hb : c.code = cc) (hK : va_K D vwCl tys s) (hP : va_P D vwCl ws H) (hD : va_D A0 ws) (hS : va_S A0 H0 H locs) (q0 t0 : Nat) {a : Nat} {dv : Nat → Int} (ha : ws[q0]? = some (a, .inl (yI, 9, .inl (aw_d dv)))) (ht : tys[t0]? = some (yI, .int)) (k : Nat) (hk : k < 9) {x : Int} (hdg : decode cc pc = .ok (.iastore, 1))
    (kk : ∀ (H1 : Heap) (locs1 : List Loc), va_P D vwCl (ws.set q0 (a, .inl (yI, 9, .inl (aw_d (aw_ud dv k x))))) H1 → va_D A0 (ws.set q0 (a, .inl (yI, 9, .inl (aw_d (aw_ud dv k x))))) → va_S A0 H0 H1 locs1 → W p l e R s m args below meth c H1 locs1 cells slots Q (F0 m (pc + 1) ls rest)) : W p l e R s m args below meth c H locs cells slots Q (F0 m pc ls (.int (zI x) :: .int (zI (k : Int)) :: .ref a :: rest)) := by
  have he : upd (aw_d dv) (zI (k : Int)).toNatClampNeg (zI x) = aw_d (aw_ud dv k x) := by
    rw [zI_clamp (by omega)]
    funext j
    unfold upd aw_d aw_ud
    rw [show ((k : Int)).toNat = k from by omega]
    by_cases hj : j = k
    · rw [if_pos hj, if_pos hj]
    · rw [if_neg hj, if_neg hj]
  refine va_iast hx hb hK hP hD hS q0 t0 ha ht (zI_in (by omega) (by omega) (by omega)) hdg ?_
  rw [he]
  exact kk
/-- a loop that writes: a counts, x is what the cells hold -/
theorem zb_lpm {τ : Type} (I : Int → τ → Prop) (lv : Int → List (Nat × Value)) (wf : τ → va_W) (μ : Int → Int) (a : Int) (x : τ) (h : I a x) (hl : lv_has ls nL (lv a)) (hP : va_P D vwCl (wf x) H) (hD : va_D A0 (wf x)) (hS : va_S A0 H0 H locs)
    (step : ∀ (a : Int) (x : τ) (H : Heap) (locs : List Loc) (ls : Array Slot), I a x → lv_has ls nL (lv a) → va_P D vwCl (wf x) H → va_D A0 (wf x) → va_S A0 H0 H locs →
      (∀ (b : Int) (z : τ) (H' : Heap) (locs' : List Loc) (ls' : Array Slot), I b z → (0 ≤ μ b ∧ μ b < μ a) → lv_has ls' nL (lv b) → va_P D vwCl (wf z) H' → va_D A0 (wf z) → va_S A0 H0 H' locs' → W p l e R s m args below meth c H' locs' cells slots Q (F0 m pc ls' [])) → W p l e R s m args below meth c H locs cells slots Q (F0 m pc ls [])) : W p l e R s m args below meth c H locs cells slots Q (F0 m pc ls []) := by
  have key : ∀ (n : Nat) (a : Int) (x : τ) (H : Heap) (locs : List Loc) (ls : Array Slot), I a x → lv_has ls nL (lv a) → va_P D vwCl (wf x) H → va_D A0 (wf x) → va_S A0 H0 H locs → (μ a).toNat < n → W p l e R s m args below meth c H locs cells slots Q (F0 m pc ls []) := by
    intro n
    induction n with
    | zero => intro a x H locs ls _ _ _ _ _ h; exact absurd h (Nat.not_lt_zero _)
    | succ n ih => intro a x H locs ls h1 h2 h3 h4 h5 hn; exact step a x H locs ls h1 h2 h3 h4 h5 (fun b z H' locs' ls' g1 g2 g3 g4 g5 g6 => ih b z H' locs' ls' g1 g3 g4 g5 g6 (by omega))
  exact key _ a x H locs ls h hl hP hD hS (Nat.lt_succ_self _)
end AM
