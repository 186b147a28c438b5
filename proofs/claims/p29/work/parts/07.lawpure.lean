/-! what the law's own numbers say -/
/-- the law's row of interrupted coils says what ob says -/
def aw_OB (pf : Nat → Int32) (ob : Int → Bool) : Prop := ∀ z : Int, 0 ≤ z → z < 72 → ((pf (zI (z / 24)).toNatClampNeg >>> (zI (z % 24) &&& 31)) &&& zI 1) = zI (aw_b (ob z))
theorem aw_tmod2 {x n : Int} (h : 0 < n) : (x.tmod n + n).tmod n = x % n := by
  have ht := aw_tmod (x := x) h
  have hm := aw_mod (x := x) h
  rw [Int.tmod_eq_emod_of_nonneg (by omega)]
  by_cases h0 : 0 ≤ x.tmod n
  · rw [Int.add_emod_right, ht.2.2.1 h0, Int.emod_emod]
  · rw [ht.2.2.2 (by omega), Int.emod_emod]
theorem aw_emod_le {z n : Int} (h0 : 0 ≤ z) (h : 0 < n) : z % n ≤ z := by
  have h1 := Int.emod_add_mul_ediv z n
  have h2 : 0 ≤ n * (z / n) := Int.mul_nonneg (by omega) (Int.ediv_nonneg h0 (by omega))
  omega
theorem aw_gc_0 {w N : Int} (hN : 0 < N) (h : w % N = 0) : aw_gc w N = N := by
  unfold aw_gc
  rw [h, show (0 : Int).toNat = 0 from rfl, Nat.gcd_zero_left]
  omega
theorem aw_at0 {q w N : Int} (h0 : 0 ≤ q) (h1 : q < N) : (q + 0 * w) % N = q := by
  rw [Int.zero_mul, Int.add_zero]
  exact Int.emod_eq_of_lt h0 h1
theorem aw_next {q k w N : Int} (_hN : 0 < N) : ((q + (k - 1) * w) % N + w) % N = (q + k * w) % N := by
  rw [Int.emod_add_emod]
  congr 1
  rw [Int.sub_mul, Int.one_mul]
  omega
theorem aw_back {q w N : Int} (hN : 0 < N) (h0 : 0 ≤ q) (h1 : q < N) : ((q + (aw_ln w N - 1) * w) % N + w) % N = q := by
  rw [aw_next hN, Int.add_emod, aw_ln_0 hN, Int.add_zero, Int.emod_emod]
  exact Int.emod_eq_of_lt h0 h1
theorem aw_endback {z w N : Int} (h : 0 ≤ z ∧ z < N) : ((z + w) % N - w) % N = z := by
  rw [Int.sub_emod, Int.emod_emod, ← Int.sub_emod, Int.add_sub_cancel]
  exact Int.emod_eq_of_lt h.1 h.2
theorem aw_ciA {p : Int → Bool} {k b : Int} (hk : 0 ≤ k) (hb : b = aw_b (aw_al p k)) (h : b = 0) : aw_b (aw_al p (k + 1)) = 0 := by
  rw [aw_al_s _ hk, aw_b_eq0.mp (hb.symm.trans h), Bool.false_and]; rfl
theorem aw_ciB {w N q k z : Int} {ob : Int → Bool} (hk : 0 ≤ k) (e : z = (q + k * w) % N) (h : ¬ aw_b (ob z) = 0) : aw_b (aw_al (aw_ci w N ob q) (k + 1)) = 0 := by
  have h1 : aw_ci w N ob q k = false := by
    unfold aw_ci; rw [← e, aw_b_ne0.mp h]; rfl
  rw [aw_al_s _ hk, h1, Bool.and_false]; rfl
theorem aw_ciC {w N q k z b : Int} {ob : Int → Bool} (hk : 0 ≤ k) (hb : b = aw_b (aw_al (aw_ci w N ob q) k)) (hn : ¬ b = 0) (e : z = (q + k * w) % N) (h : aw_b (ob z) = 0) : aw_b (aw_al (aw_ci w N ob q) (k + 1)) = 1 := by
  have h1 : aw_ci w N ob q k = true := by
    unfold aw_ci; rw [← e, aw_b_eq0.mp h]; rfl
  rw [aw_al_s _ hk, h1, Bool.and_true]
  exact aw_b_t (aw_b_ne0.mp (hb ▸ hn))
theorem aw_clf {w N q k b : Int} {ob : Int → Bool} (e : k = aw_ln w N) (hb : b = aw_b (aw_al (aw_ci w N ob q) k)) (h : b = 0) : aw_cl w N ob q = false := by
  unfold aw_cl; rw [← e]; exact aw_b_eq0.mp (hb.symm.trans h)
theorem aw_clt {w N q k b : Int} {ob : Int → Bool} (e : k = aw_ln w N) (hb : b = aw_b (aw_al (aw_ci w N ob q) k)) (h : ¬ b = 0) : aw_cl w N ob q = true := by
  unfold aw_cl; rw [← e]; exact aw_b_ne0.mp (hb ▸ h)
/-! the law's search for the common divisor: r is the largest one below k -/
def aw_gp (a b k r : Int) : Prop := 1 ≤ r ∧ r < k ∧ r ∣ a ∧ r ∣ b ∧ ∀ j : Int, 1 ≤ j → j < k → j ∣ a → j ∣ b → j ≤ r
theorem aw_gp_0 (a b : Int) : aw_gp a b 2 1 := ⟨by omega, by omega, Int.one_dvd _, Int.one_dvd _, fun j _ h _ _ => by omega⟩
theorem aw_gp_f {a b k r : Int} (h : aw_gp a b k r) (hn : a % k = 0 → b % k = 0 → False) : aw_gp a b (k + 1) r := by
  obtain ⟨h1, h2, h3, h4, h5⟩ := h
  refine ⟨h1, by omega, h3, h4, fun j q1 q2 q3 q4 => ?_⟩
  rcases Int.lt_or_eq_of_le (show j ≤ k by omega) with q | q
  · exact h5 j q1 q q3 q4
  · subst q
    exact (hn (Int.emod_eq_zero_of_dvd q3) (Int.emod_eq_zero_of_dvd q4)).elim
theorem aw_gp_t {a b k r : Int} (_h : aw_gp a b k r) (hk : 1 ≤ k) (ha : a % k = 0) (hb : b % k = 0) : aw_gp a b (k + 1) k :=
  ⟨hk, by omega, Int.dvd_of_emod_eq_zero ha, Int.dvd_of_emod_eq_zero hb, fun j _ q2 _ _ => by omega⟩
theorem aw_gp_e {a b k r : Int} (ha : 0 ≤ a) (hb : 1 ≤ b) (hk : k = b + 1) (h : aw_gp a b k r) : r = ((Nat.gcd a.toNat b.toNat : Nat) : Int) := by
  obtain ⟨h1, h2, h3, h4, h5⟩ := h
  have hg1 : ((Nat.gcd a.toNat b.toNat : Nat) : Int) ∣ a := by
    have := Int.natCast_dvd_natCast.mpr (Nat.gcd_dvd_left a.toNat b.toNat)
    rwa [show ((a.toNat : Nat) : Int) = a from by omega] at this
  have hg2 : ((Nat.gcd a.toNat b.toNat : Nat) : Int) ∣ b := by
    have := Int.natCast_dvd_natCast.mpr (Nat.gcd_dvd_right a.toNat b.toNat)
    rwa [show ((b.toNat : Nat) : Int) = b from by omega] at this
  have hp : 0 < Nat.gcd a.toNat b.toNat := Nat.gcd_pos_of_pos_right _ (by omega)
  have hle : Nat.gcd a.toNat b.toNat ≤ b.toNat := Nat.gcd_le_right _ (by omega)
  have u1 := h5 _ (by omega) (by omega) hg1 hg2
  have d1 : r.toNat ∣ a.toNat := by
    apply Int.natCast_dvd_natCast.mp
    rwa [show ((a.toNat : Nat) : Int) = a from by omega, show ((r.toNat : Nat) : Int) = r from by omega]
  have d2 : r.toNat ∣ b.toNat := by
    apply Int.natCast_dvd_natCast.mp
    rwa [show ((b.toNat : Nat) : Int) = b from by omega, show ((r.toNat : Nat) : Int) = r from by omega]
  have u2 := Nat.le_of_dvd hp (Nat.dvd_gcd d1 d2)
  omega
section ZC
variable {p : Program} {l : Launch} {e : Env} {R : Room} {s : State} {m : MethodId} {args : Array Value} {below : List Frame} {meth : Method} {c : Code} {H : Heap} {locs : List Loc} {cells slots : Nat} {Q : State → Prop}
/-- two roads that meet -/
theorem zb_cut {pcj : Nat} {lj : Array Slot} {rj : List Value} {g : JFrame} (kk : W p l e R s m args below meth c H locs cells slots Q (F0 m pcj lj rj)) (br : W p l e R s m args below meth c H locs cells slots Q (F0 m pcj lj rj) → W p l e R s m args below meth c H locs cells slots Q g) : W p l e R s m args below meth c H locs cells slots Q g := br kk
end ZC
