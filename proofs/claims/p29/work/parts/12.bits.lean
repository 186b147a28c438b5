/-! bits: the first rows (bt to b_sshr) are out of kit/laws/BITS.to-paste -/
def bt (x : Int32) (i : Nat) : Bool := x.toBitVec.getLsbD i
theorem b_ext {x y : Int32} (h : ∀ i, i < 32 → bt x i = bt y i) : x = y := Int32.toBitVec_inj.mp (BitVec.eq_of_getLsbD_eq (fun i hi => h i hi))
theorem b_or (x y : Int32) (i : Nat) : bt (x ||| y) i = (bt x i || bt y i) := by unfold bt; rw [Int32.toBitVec_or, BitVec.getLsbD_or]
theorem b_and (x y : Int32) (i : Nat) : bt (x &&& y) i = (bt x i && bt y i) := by unfold bt; rw [Int32.toBitVec_and, BitVec.getLsbD_and]
theorem b_xor (x y : Int32) (i : Nat) : bt (x ^^^ y) i = (bt x i ^^ bt y i) := by unfold bt; rw [Int32.toBitVec_xor, BitVec.getLsbD_xor]
theorem b_m1 : ∀ i, i < 32 → bt (-1) i = true := by decide +kernel
theorem b_0 (i : Nat) : bt 0 i = false := BitVec.getLsbD_zero
theorem s_l : ∀ n, n < 32 → ((nI n &&& 31).toBitVec.smod 32).toNat = n := by decide +kernel
theorem b_shl (n : Nat) (hn : n < 32) (x : Int32) {i : Nat} (hi : i < 32) : bt (x <<< (nI n &&& 31)) i = (decide (n ≤ i) && bt x (i - n)) := by
  unfold bt
  rw [Int32.toBitVec_shiftLeft]
  show (x.toBitVec <<< ((nI n &&& 31).toBitVec.smod 32).toNat).getLsbD i = _
  rw [s_l n hn, BitVec.getLsbD_shiftLeft]
  rcases Nat.lt_or_ge i n with h | h
  · simp [h, Nat.not_le.mpr h]
  · simp [hi, h, Nat.not_lt.mpr h]
theorem b_sshr (n : Nat) (hn : n < 32) (x : Int32) {i : Nat} (hi : i < 32) : bt (x >>> (nI n &&& 31)) i = if n + i < 32 then bt x (n + i) else bt x 31 := by
  unfold bt
  rw [Int32.toBitVec_shiftRight]
  show (x.toBitVec.sshiftRight ((nI n &&& 31).toBitVec.smod 32).toNat).getLsbD i = _
  rw [s_l n hn, BitVec.getLsbD_sshiftRight, BitVec.msb_eq_getLsbD_last]
  simp [hi]
theorem aw_bt1 {i : Nat} (hi : i < 32) : bt 1 i = decide (i = 0) := (by decide +kernel : ∀ i, i < 32 → bt 1 i = decide (i = 0)) i hi
theorem aw_btb (x : Bool) {i : Nat} (hi : i < 32) : bt (zI (aw_b x)) i = (decide (i = 0) && x) := by
  cases x
  · rw [show zI (aw_b false) = 0 from by decide, b_0, Bool.and_false]
  · rw [show zI (aw_b true) = 1 from by decide, aw_bt1 hi, Bool.and_true]
theorem aw_sft (x : Int32) {n : Nat} (hn : n < 32) : (x >>> (nI n &&& 31)) &&& 1 = zI (aw_b (bt x n)) := by
  apply b_ext
  intro i hi
  rw [b_and, b_sshr n hn x hi, aw_bt1 hi, aw_btb _ hi]
  by_cases h : i = 0
  · subst h
    rw [Nat.add_zero, if_pos hn]
    simp
  · simp [h]
theorem aw_b_inj {x y : Bool} : zI (aw_b x) = zI (aw_b y) ↔ x = y := by
  cases x <;> cases y <;> decide
theorem aw_OB_iff {pf : Nat → Int32} {ob : Int → Bool} : aw_OB pf ob ↔ ∀ z : Int, 0 ≤ z → z < 72 → bt (pf (z / 24).toNat) (z % 24).toNat = ob z := by
  unfold aw_OB
  have key : ∀ z : Int, 0 ≤ z → z < 72 → ((pf (zI (z / 24)).toNatClampNeg >>> (zI (z % 24) &&& 31)) &&& zI 1) = zI (aw_b (bt (pf (z / 24).toNat) (z % 24).toNat)) := by
    intro z h0 h1
    rw [zI_clamp (by omega), show zI (z % 24) = nI (z % 24).toNat from by rw [zI_nI (by omega)]; congr 1; omega, show zI 1 = 1 from by decide]
    exact aw_sft _ (by omega)
  constructor
  · intro h z h0 h1
    exact aw_b_inj.mp ((key z h0 h1).symm.trans (h z h0 h1))
  · intro h z h0 h1
    rw [key z h0 h1, h z h0 h1]
theorem aw_OB_0 {pf : Nat → Int32} {ob : Int → Bool} (hp : ∀ j : Nat, j < 3 → pf j = zI 0) (ho : ∀ z : Int, 0 ≤ z → z < 72 → ob z = false) : aw_OB pf ob := by
  rw [aw_OB_iff]
  intro z h0 h1
  rw [hp _ (by omega), ho z h0 h1, zI_0, b_0]
theorem aw_one {n : Nat} (hn : n < 32) {i : Nat} (hi : i < 32) : bt ((1 : Int32) <<< (nI n &&& 31)) i = decide (i = n) := by
  rw [b_shl n hn _ hi]
  by_cases h : n ≤ i
  · rw [aw_bt1 (by omega)]
    by_cases e : i = n
    · subst e; simp
    · simp [h, e, show ¬ i - n = 0 from by omega]
  · simp [h, show ¬ i = n from by omega]
theorem aw_OB_set {pf : Nat → Int32} {ob : Int → Bool} (h : aw_OB pf ob) {c : Int} (h0 : 0 ≤ c) (h1 : c < 72) : aw_OB (upd pf (zI (c / 24)).toNatClampNeg (pf (zI (c / 24)).toNatClampNeg ||| (zI 1 <<< (zI (c % 24) &&& 31)))) (aw_up ob c true) := by
  rw [aw_OB_iff] at h ⊢
  intro z g0 g1
  rw [zI_clamp (by omega), show zI (c % 24) = nI (c % 24).toNat from by rw [zI_nI (by omega)]; congr 1; omega, show zI 1 = 1 from by decide]
  unfold upd aw_up
  by_cases hq : (z / 24).toNat = (c / 24).toNat
  · rw [if_pos hq, b_or, aw_one (by omega) (by omega), ← hq, h z g0 g1]
    by_cases e : z = c
    · subst e; simp
    · rw [if_neg e, decide_eq_false (by omega), Bool.or_false]
  · rw [if_neg hq, if_neg (by intro e; exact hq (by rw [e])), h z g0 g1]
theorem aw_OB_clr {pf : Nat → Int32} {ob : Int → Bool} (h : aw_OB pf ob) {c : Int} (h0 : 0 ≤ c) (h1 : c < 72) : aw_OB (upd pf (zI (c / 24)).toNatClampNeg (pf (zI (c / 24)).toNatClampNeg &&& ((zI 1 <<< (zI (c % 24) &&& 31)) ^^^ zI (-1)))) (aw_up ob c false) := by
  rw [aw_OB_iff] at h ⊢
  intro z g0 g1
  rw [zI_clamp (by omega), show zI (c % 24) = nI (c % 24).toNat from by rw [zI_nI (by omega)]; congr 1; omega, show zI 1 = 1 from by decide, show zI (-1) = -1 from by decide]
  unfold upd aw_up
  by_cases hq : (z / 24).toNat = (c / 24).toNat
  · rw [if_pos hq, b_and, b_xor, b_m1 _ (by omega), aw_one (by omega) (by omega), ← hq, h z g0 g1]
    by_cases e : z = c
    · subst e; simp
    · rw [if_neg e, decide_eq_false (by omega)]; simp
  · rw [if_neg hq, if_neg (by intro e; exact hq (by rw [e])), h z g0 g1]
