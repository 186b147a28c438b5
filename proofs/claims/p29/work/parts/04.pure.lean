/-! what the methods answer, as numbers -/
def aw_In (P S K N w ch : Int) : Prop := 2 ≤ P ∧ P ≤ 8 ∧ P ≤ S ∧ S ≤ 24 ∧ 1 ≤ K ∧ K ≤ 3 ∧ N = S * K ∧ 2 ≤ N ∧ N ≤ 72 ∧ -80 ≤ w ∧ w ≤ 80 ∧ 0 ≤ ch ∧ ch ≤ 5
def aw_sp (P S ch : Int) : Int := if S / P - ch < 1 then 1 else S / P - ch
def aw_lo (P S K ch z : Int) : Int := (z / K + aw_sp P S ch) % S
def aw_sd (P S slot turn : Int) : Int := if (slot + turn) % S * P / S % 2 = 0 then 1 else -1
def aw_vt (P S K ch z turn : Int) : Int := aw_sd P S (z / K) turn - aw_sd P S (aw_lo P S K ch z) turn
def aw_gc (w N : Int) : Int := (Nat.gcd (w % N).toNat N.toNat : Nat)
def aw_ln (w N : Int) : Int := N / aw_gc w N
/-- how many of the first numbers have p -/
def aw_cN (p : Int → Bool) : Nat → Int
  | 0 => 0
  | n + 1 => aw_cN p n + aw_b (p n)
def aw_cn (p : Int → Bool) (z : Int) : Int := aw_cN p z.toNat
/-- all of the first numbers have p -/
def aw_aN (p : Int → Bool) : Nat → Bool
  | 0 => true
  | n + 1 => aw_aN p n && p n
def aw_al (p : Int → Bool) (z : Int) : Bool := aw_aN p z.toNat
def aw_sN (h : Int → Int) : Nat → Int
  | 0 => 0
  | n + 1 => aw_sN h n + h n
def aw_sm (h : Int → Int) (z : Int) : Int := aw_sN h z.toNat
def aw_ci (w N : Int) (ob : Int → Bool) (c : Int) : Int → Bool := fun k => !(ob ((c + k * w) % N))
/-- is circuit c closed -/
def aw_cl (w N : Int) (ob : Int → Bool) (c : Int) : Bool := aw_al (aw_ci w N ob c) (aw_ln w N)
/-- the interrupted coils with a side in a slot -/
def aw_oc (P S K ch : Int) (ob : Int → Bool) (slot : Int) : Int → Bool := fun z => ob z && (z / K == slot || aw_lo P S K ch z == slot)
theorem aw_b_01 (x : Bool) : aw_b x = 0 ∨ aw_b x = 1 := by cases x <;> simp [aw_b]
theorem aw_b_t {x : Bool} (h : x = true) : aw_b x = 1 := by subst h; rfl
theorem aw_b_f {x : Bool} (h : x = false) : aw_b x = 0 := by subst h; rfl
theorem aw_b_eq0 {x : Bool} : aw_b x = 0 ↔ x = false := by cases x <;> simp [aw_b]
theorem aw_b_eq1 {x : Bool} : aw_b x = 1 ↔ x = true := by cases x <;> simp [aw_b]
theorem aw_b_ne0 {x : Bool} : ¬ aw_b x = 0 ↔ x = true := by cases x <;> simp [aw_b]
theorem aw_cn_0 (p : Int → Bool) : aw_cn p 0 = 0 := rfl
theorem aw_cn_s (p : Int → Bool) {z : Int} (h : 0 ≤ z) : aw_cn p (z + 1) = aw_cn p z + aw_b (p z) := by
  unfold aw_cn
  rw [show (z + 1).toNat = z.toNat + 1 from by omega]
  show aw_cN p z.toNat + aw_b (p (z.toNat : Nat)) = _
  rw [show ((z.toNat : Nat) : Int) = z from by omega]
theorem aw_cN_le (p : Int → Bool) (n : Nat) : 0 ≤ aw_cN p n ∧ aw_cN p n ≤ n := by
  induction n with
  | zero => exact ⟨by simp [aw_cN], by simp [aw_cN]⟩
  | succ n ih =>
    have h := aw_b_01 (p n)
    simp only [aw_cN]
    omega
theorem aw_cn_le (p : Int → Bool) {z : Int} (h : 0 ≤ z) : 0 ≤ aw_cn p z ∧ aw_cn p z ≤ z := by
  have := aw_cN_le p z.toNat
  unfold aw_cn
  omega
theorem aw_al_0 (p : Int → Bool) : aw_al p 0 = true := rfl
theorem aw_al_s (p : Int → Bool) {z : Int} (h : 0 ≤ z) : aw_al p (z + 1) = (aw_al p z && p z) := by
  unfold aw_al
  rw [show (z + 1).toNat = z.toNat + 1 from by omega]
  show (aw_aN p z.toNat && p (z.toNat : Nat)) = _
  rw [show ((z.toNat : Nat) : Int) = z from by omega]
theorem aw_aN_f (p : Int → Bool) {k : Nat} (hk : p k = false) : ∀ n : Nat, k < n → aw_aN p n = false := by
  intro n
  induction n with
  | zero => intro h; exact absurd h (Nat.not_lt_zero _)
  | succ n ih =>
    intro h
    simp only [aw_aN]
    by_cases e : k = n
    · subst e; rw [hk, Bool.and_false]
    · rw [ih (by omega), Bool.false_and]
theorem aw_al_f (p : Int → Bool) {k z : Int} (h0 : 0 ≤ k) (hk : k < z) (h : p k = false) : aw_al p z = false :=
  aw_aN_f p (k := k.toNat) (by rw [show ((k.toNat : Nat) : Int) = k from by omega]; exact h) _ (by omega)
theorem aw_sm_0 (h : Int → Int) : aw_sm h 0 = 0 := rfl
theorem aw_sm_s (f : Int → Int) {z : Int} (h : 0 ≤ z) : aw_sm f (z + 1) = aw_sm f z + f z := by
  unfold aw_sm
  rw [show (z + 1).toNat = z.toNat + 1 from by omega]
  show aw_sN f z.toNat + f (z.toNat : Nat) = _
  rw [show ((z.toNat : Nat) : Int) = z from by omega]
/-! numbers within their ranges -/
theorem aw_mod {x n : Int} (h : 0 < n) : 0 ≤ x % n ∧ x % n < n := ⟨Int.emod_nonneg _ (by omega), Int.emod_lt_of_pos _ h⟩
theorem aw_div {x n : Int} (h0 : 0 ≤ x) (h : 0 < n) : 0 ≤ x / n ∧ x / n ≤ x := ⟨Int.ediv_nonneg h0 (by omega), Int.ediv_le_self _ h0⟩
theorem aw_mul {x y a b : Int} (h0 : 0 ≤ x) (h1 : x ≤ a) (h2 : -b ≤ y) (h3 : y ≤ b) : -(a * b) ≤ x * y ∧ x * y ≤ a * b := by
  have hb : 0 ≤ b := by omega
  have e1 : x * b ≤ a * b := Int.mul_le_mul_of_nonneg_right h1 hb
  have e2 : x * y ≤ x * b := Int.mul_le_mul_of_nonneg_left h3 h0
  have e3 : x * (-b) ≤ x * y := Int.mul_le_mul_of_nonneg_left h2 h0
  have e4 : x * (-b) = -(x * b) := Int.mul_neg _ _
  omega
theorem aw_divlt {z S K N : Int} (hN : N = S * K) (hK : 0 < K) (h1 : z < N) : z / K < S := by
  apply Int.ediv_lt_of_lt_mul hK
  rw [← hN]; exact h1
theorem aw_sp_in {P S ch : Int} (hP : 2 ≤ P) (hS : 2 ≤ S) (hch : 0 ≤ ch) : 1 ≤ aw_sp P S ch ∧ aw_sp P S ch ≤ S := by
  have h := aw_div (x := S) (n := P) (by omega) (by omega)
  unfold aw_sp
  split <;> omega
theorem aw_sd_in (P S a b : Int) : aw_sd P S a b = 1 ∨ aw_sd P S a b = -1 := by
  unfold aw_sd; split
  · exact Or.inl rfl
  · exact Or.inr rfl
theorem aw_sd_per (P S a b : Int) : aw_sd P S a (b + S) = aw_sd P S a b := by
  unfold aw_sd
  rw [show a + (b + S) = a + b + S from by omega, Int.add_emod_right]
theorem aw_vt_per (P S K ch z b : Int) : aw_vt P S K ch z (b + S) = aw_vt P S K ch z b := by
  unfold aw_vt
  rw [aw_sd_per, aw_sd_per]
theorem aw_vt_in (P S K ch z b : Int) : -2 ≤ aw_vt P S K ch z b ∧ aw_vt P S K ch z b ≤ 2 := by
  have h1 := aw_sd_in P S (z / K) b
  have h2 := aw_sd_in P S (aw_lo P S K ch z) b
  unfold aw_vt
  omega
/-! circuits -/
theorem aw_gc_in {w N : Int} (hN : 0 < N) : 1 ≤ aw_gc w N ∧ aw_gc w N ≤ N := by
  have h1 : 0 < Nat.gcd (w % N).toNat N.toNat := Nat.gcd_pos_of_pos_right _ (by omega)
  have h2 : Nat.gcd (w % N).toNat N.toNat ≤ N.toNat := Nat.gcd_le_right _ (by omega)
  unfold aw_gc
  omega
theorem aw_gc_N {w N : Int} (hN : 0 < N) : aw_gc w N ∣ N := by
  have h : ((Nat.gcd (w % N).toNat N.toNat : Nat) : Int) ∣ ((N.toNat : Nat) : Int) := Int.natCast_dvd_natCast.mpr (Nat.gcd_dvd_right _ _)
  rwa [show ((N.toNat : Nat) : Int) = N from by omega] at h
theorem aw_gc_w {w N : Int} (hN : 0 < N) : aw_gc w N ∣ w := by
  have hm := aw_mod (x := w) hN
  have h : ((Nat.gcd (w % N).toNat N.toNat : Nat) : Int) ∣ (((w % N).toNat : Nat) : Int) := Int.natCast_dvd_natCast.mpr (Nat.gcd_dvd_left _ _)
  rw [show (((w % N).toNat : Nat) : Int) = w % N from by omega] at h
  have h2 : aw_gc w N ∣ w % N + N * (w / N) := Int.dvd_add h (Int.dvd_trans (aw_gc_N hN) (Int.dvd_mul_right _ _))
  rwa [Int.emod_add_mul_ediv] at h2
theorem aw_ln_eq {w N : Int} (hN : 0 < N) : aw_ln w N * aw_gc w N = N := Int.ediv_mul_cancel (aw_gc_N hN)
theorem aw_ln_in {w N : Int} (hN : 0 < N) : 1 ≤ aw_ln w N ∧ aw_ln w N ≤ N := by
  have h1 := aw_ln_eq (w := w) hN
  have h2 := aw_gc_in (w := w) hN
  have h3 : 0 ≤ aw_ln w N := Int.ediv_nonneg (by omega) (by omega)
  have h4 : aw_ln w N ≠ 0 := by intro h; rw [h, Int.zero_mul] at h1; omega
  have h5 : aw_ln w N ≤ N := Int.ediv_le_self _ (by omega)
  omega
theorem aw_N_ln {w N : Int} (hN : 0 < N) : N / aw_ln w N = aw_gc w N := by
  have h1 := aw_ln_eq (w := w) hN
  have h2 := aw_ln_in (w := w) hN
  have e : N = aw_ln w N * aw_gc w N := h1.symm
  calc N / aw_ln w N = (aw_ln w N * aw_gc w N) / aw_ln w N := by rw [h1]
    _ = aw_gc w N := Int.mul_ediv_cancel_left _ (by omega)
theorem aw_ln_0 {w N : Int} (hN : 0 < N) : aw_ln w N * w % N = 0 := by
  obtain ⟨q, hq⟩ := aw_gc_w (w := w) hN
  have h1 := aw_ln_eq (w := w) hN
  apply Int.emod_eq_zero_of_dvd
  refine ⟨q, ?_⟩
  calc aw_ln w N * w = aw_ln w N * (aw_gc w N * q) := by rw [← hq]
    _ = (aw_ln w N * aw_gc w N) * q := (Int.mul_assoc _ _ _).symm
    _ = N * q := by rw [h1]
/-- no shorter way leads back -/
theorem aw_ln_min {w N j : Int} (hN : 0 < N) (h1 : 1 ≤ j) (h2 : j * w % N = 0) : aw_ln w N ≤ j := by
  have hm := aw_mod (x := w) hN
  have h3 : j * (w % N) % N = 0 := by rw [Int.mul_emod, Int.emod_emod, ← Int.mul_emod]; exact h2
  have d : N ∣ j * (w % N) := Int.dvd_of_emod_eq_zero h3
  obtain ⟨a, ha⟩ : ∃ a : Nat, w % N = a := ⟨(w % N).toNat, by omega⟩
  obtain ⟨n, hn⟩ : ∃ n : Nat, N = n := ⟨N.toNat, by omega⟩
  obtain ⟨k, hk⟩ : ∃ k : Nat, j = k := ⟨j.toNat, by omega⟩
  have hg : aw_gc w N = (Nat.gcd a n : Nat) := by
    unfold aw_gc; rw [ha, hn]; simp
  have hnp : 0 < n := by omega
  have dn : n ∣ k * a := by
    rw [ha, hk, hn] at d
    exact Int.natCast_dvd_natCast.mp (by push_cast; exact d)
  have hgp : 0 < Nat.gcd a n := Nat.gcd_pos_of_pos_right _ hnp
  have c1 : Nat.Coprime (n / Nat.gcd a n) (a / Nat.gcd a n) := Nat.Coprime.symm (Nat.coprime_div_gcd_div_gcd hgp)
  have d2 : n / Nat.gcd a n ∣ k * (a / Nat.gcd a n) := by
    have e1 : a = a / Nat.gcd a n * Nat.gcd a n := (Nat.div_mul_cancel (Nat.gcd_dvd_left _ _)).symm
    have e2 : n = n / Nat.gcd a n * Nat.gcd a n := (Nat.div_mul_cancel (Nat.gcd_dvd_right _ _)).symm
    apply Nat.dvd_of_mul_dvd_mul_right hgp
    rw [← e2, Nat.mul_assoc, ← e1]
    exact dn
  have d3 : n / Nat.gcd a n ∣ k := Nat.Coprime.dvd_of_dvd_mul_right c1 d2
  have hle : n / Nat.gcd a n ≤ k := Nat.le_of_dvd (by omega) d3
  unfold aw_ln
  rw [hg, hn, hk]
  exact_mod_cast hle
theorem aw_ln_no {w N j : Int} (hN : 0 < N) (h1 : 1 ≤ j) (h2 : j < aw_ln w N) : ¬ j * w % N = 0 := fun h => by
  have := aw_ln_min hN h1 h
  omega
/-- the remainder by the number of circuits stays on the way -/
theorem aw_gc_mod {w N c : Int} (hN : 0 < N) (k : Int) : (c + k * w) % N % aw_gc w N = c % aw_gc w N := by
  obtain ⟨q, hq⟩ := aw_gc_w (w := w) hN
  rw [Int.emod_emod_of_dvd _ (aw_gc_N hN)]
  have e : c + k * w = c + aw_gc w N * (k * q) := by
    have : k * w = aw_gc w N * (k * q) := by
      calc k * w = k * (aw_gc w N * q) := by rw [← hq]
        _ = aw_gc w N * (k * q) := Int.mul_left_comm _ _ _
    rw [this]
  rw [e, Int.add_mul_emod_self_left]
theorem aw_tmod {x n : Int} (h : 0 < n) : -n < x.tmod n ∧ x.tmod n < n ∧ (0 ≤ x.tmod n → x.tmod n = x % n) ∧ (x.tmod n < 0 → x.tmod n + n = x % n) := by
  have hm := aw_mod (x := x) h
  rw [Int.tmod_eq_emod]
  split
  · refine ⟨by omega, by omega, fun _ => by omega, fun _ => by omega⟩
  · rename_i hh
    have h0 : x % n ≠ 0 := fun e => hh (Or.inr (Int.dvd_of_emod_eq_zero e))
    refine ⟨by omega, by omega, fun _ => by omega, fun _ => by omega⟩
/-! the voltages of all coils add up to nothing -/
theorem aw_sN_add (f g : Int → Int) (n : Nat) : aw_sN (fun k => f k - g k) n = aw_sN f n - aw_sN g n := by
  induction n with
  | zero => rfl
  | succ n ih => simp only [aw_sN]; omega
theorem aw_sN_congr {f g : Int → Int} {n : Nat} (h : ∀ k : Nat, k < n → f k = g k) : aw_sN f n = aw_sN g n := by
  induction n with
  | zero => rfl
  | succ n ih => simp only [aw_sN]; rw [ih (fun k hk => h k (by omega)), h n (by omega)]
theorem aw_sN_app (f : Int → Int) (a b : Nat) : aw_sN f (a + b) = aw_sN f a + aw_sN (fun k => f (a + k)) b := by
  induction b with
  | zero => simp [aw_sN]
  | succ b ih =>
    rw [show a + (b + 1) = (a + b) + 1 from by omega]
    simp only [aw_sN]
    rw [ih]
    have e : f ((a + b : Nat) : Int) = f ((a : Int) + b) := congrArg f (by omega)
    rw [e]; omega
/-- every number of the outer row counts K times -/
theorem aw_sN_blk (f : Int → Int) (K : Nat) (hK : 0 < K) (S : Nat) : aw_sN (fun z => f (z / K)) (S * K) = K * aw_sN f S := by
  induction S with
  | zero => simp [aw_sN]
  | succ S ih =>
    have e1 : (S + 1) * K = S * K + K := by rw [Nat.add_mul, Nat.one_mul]
    rw [e1, aw_sN_app, ih]
    have hc : ∀ b : Nat, b ≤ K → aw_sN (fun k => f ((((S * K : Nat) : Int) + k) / K)) b = b * f S := by
      intro b
      induction b with
      | zero => intro _; simp [aw_sN]
      | succ b ihb =>
        intro hb
        simp only [aw_sN]
        rw [ihb (by omega)]
        have hd : (((S * K : Nat) : Int) + (b : Int)) / K = S := by
          have e2 : ((S * K : Nat) : Int) + (b : Int) = b + S * (K : Int) := by push_cast; omega
          rw [e2, Int.add_mul_ediv_right _ _ (by omega), Int.ediv_eq_zero_of_lt (by omega) (by omega)]
          omega
        rw [hd]
        have e3 : ((b + 1 : Nat) : Int) * f S = b * f S + f S := by
          push_cast; rw [Int.add_mul, Int.one_mul]
        rw [e3]
    rw [hc K (Nat.le_refl K)]
    simp only [aw_sN]
    rw [Int.mul_add]
/-- a round shifted by one -/
theorem aw_sN_rot (f : Int → Int) (S : Nat) (hS : 0 < S) (q : Nat) : aw_sN (fun k => f ((k + (q + 1 : Nat)) % S)) S = aw_sN (fun k => f ((k + q) % S)) S := by
  obtain ⟨n, rfl⟩ : ∃ n, S = 1 + n := ⟨S - 1, by omega⟩
  have hl : aw_sN (fun k => f ((k + (q + 1 : Nat)) % ((1 + n : Nat) : Int))) (n + 1) = aw_sN (fun k => f ((k + (q + 1 : Nat)) % ((1 + n : Nat) : Int))) n + f (((n : Int) + (q + 1 : Nat)) % ((1 + n : Nat) : Int)) := rfl
  have hr := aw_sN_app (fun k => f ((k + q) % ((1 + n : Nat) : Int))) 1 n
  rw [hr, Nat.add_comm 1 n, ← Nat.add_comm 1 n]
  have e1 : (n : Int) + (q + 1 : Nat) = q + (1 + n : Nat) := by omega
  have hl2 : aw_sN (fun k => f ((k + (q + 1 : Nat)) % ((1 + n : Nat) : Int))) (1 + n) = aw_sN (fun k => f ((k + (q + 1 : Nat)) % ((1 + n : Nat) : Int))) n + f ((q : Int) % ((1 + n : Nat) : Int)) := by
    rw [Nat.add_comm 1 n] at hl ⊢
    rw [hl]
    congr 2
    rw [show (n : Int) + (q + 1 : Nat) = q + (n + 1 : Nat) from by omega, Int.add_emod_right]
  rw [hl2]
  have e2 : aw_sN (fun k => f (((1 : Nat) + k + q) % ((1 + n : Nat) : Int))) n = aw_sN (fun k => f ((k + (q + 1 : Nat)) % ((1 + n : Nat) : Int))) n :=
    aw_sN_congr (fun k _ => by congr 2; omega)
  have e3 : aw_sN (fun k => f ((k + q) % ((1 + n : Nat) : Int))) 1 = f ((q : Int) % ((1 + n : Nat) : Int)) := by
    simp [aw_sN]
  rw [e3]
  have e4 : aw_sN (fun k => (fun k => f ((k + q) % ((1 + n : Nat) : Int))) ((1 : Nat) + k)) n = aw_sN (fun k => f ((k + (q + 1 : Nat)) % ((1 + n : Nat) : Int))) n := e2
  rw [e4]
  omega
theorem aw_sN_rots (f : Int → Int) (S : Nat) (hS : 0 < S) (q : Nat) : aw_sN (fun k => f ((k + q) % S)) S = aw_sN f S := by
  induction q with
  | zero =>
    apply aw_sN_congr
    intro k hk
    congr 1
    rw [show (k : Int) + ((0 : Nat) : Int) = k from by omega]
    exact Int.emod_eq_of_lt (by omega) (by omega)
  | succ q ih => rw [aw_sN_rot f S hS q, ih]
theorem aw_sum0 {P S K N w ch : Int} (hI : aw_In P S K N w ch) (t : Int) : aw_sm (fun z => aw_vt P S K ch z t) N = 0 := by
  obtain ⟨i1, i2, i3, i4, i5, i6, i7, i8, i9, i10, i11, i12, i13⟩ := hI
  have hs := aw_sp_in (P := P) (S := S) (ch := ch) (by omega) (by omega) (by omega)
  obtain ⟨k, rfl⟩ : ∃ k : Nat, K = k := ⟨K.toNat, by omega⟩
  obtain ⟨n, rfl⟩ : ∃ n : Nat, S = n := ⟨S.toNat, by omega⟩
  obtain ⟨q, hq⟩ : ∃ q : Nat, aw_sp P n ch = q := ⟨(aw_sp P n ch).toNat, by omega⟩
  have hN : N.toNat = n * k := by
    have e : ((n * k : Nat) : Int) = (n : Int) * k := by push_cast; rfl
    omega
  unfold aw_sm
  rw [hN]
  have e0 : aw_sN (fun z => aw_vt P n k ch z t) (n * k) = aw_sN (fun z => (fun a => aw_sd P n a t - aw_sd P n ((a + q) % n) t) (z / k)) (n * k) := by
    apply aw_sN_congr
    intro j _
    show aw_vt P n k ch j t = aw_sd P n ((j : Int) / k) t - aw_sd P n (((j : Int) / k + q) % n) t
    unfold aw_vt aw_lo
    rw [hq]
  refine (e0.trans (aw_sN_blk (fun a => aw_sd P n a t - aw_sd P n ((a + q) % n) t) k (by omega) n)).trans ?_
  rw [aw_sN_add (fun a => aw_sd P n a t) (fun a => aw_sd P n ((a + q) % n) t), aw_sN_rots (fun a => aw_sd P n a t) n (by omega) q, Int.sub_self, Int.mul_zero]
