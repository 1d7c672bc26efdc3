/-! whole numbers behind the machine's: no overflow, floor division, the root -/
theorem jn_bmod {x : Int} (h1 : -9223372036854775808 ≤ x) (h2 : x < 9223372036854775808) : x.bmod (2 ^ 64) = x := by
  rw [Int.bmod_def]
  split <;> omega
theorem jn_add {a b : Int64} (h1 : -9223372036854775808 ≤ a.toInt + b.toInt) (h2 : a.toInt + b.toInt < 9223372036854775808) : (a + b).toInt = a.toInt + b.toInt := by
  rw [Int64.toInt_add]
  exact jn_bmod h1 h2
theorem jn_sub {a b : Int64} (h1 : -9223372036854775808 ≤ a.toInt - b.toInt) (h2 : a.toInt - b.toInt < 9223372036854775808) : (a - b).toInt = a.toInt - b.toInt := by
  rw [Int64.toInt_sub]
  exact jn_bmod h1 h2
theorem jn_mul {a b : Int64} (h1 : -9223372036854775808 ≤ a.toInt * b.toInt) (h2 : a.toInt * b.toInt < 9223372036854775808) : (a * b).toInt = a.toInt * b.toInt := by
  rw [Int64.toInt_mul]
  exact jn_bmod h1 h2
theorem jn_neg {a : Int64} (h : a.toInt ≠ -9223372036854775808) : (-a).toInt = -a.toInt := by
  rw [Int64.toInt_neg]
  have h1 := Int64.le_toInt a
  have h2 := Int64.toInt_lt a
  exact jn_bmod (by omega) (by omega)
theorem jn_xor_neg (x y : Int64) : 0 ≤ x ^^^ y ↔ (x.toInt < 0 ↔ y.toInt < 0) := by
  rw [Int64.le_iff_toInt_le]
  have h0 : (0 : Int64).toInt = 0 := rfl
  rw [h0]
  have e1 : (x ^^^ y).toBitVec.msb = (x.toBitVec.msb ^^ y.toBitVec.msb) := by
    rw [Int64.toBitVec_xor, BitVec.msb_xor]
  rw [BitVec.msb_eq_toInt, BitVec.msb_eq_toInt, BitVec.msb_eq_toInt] at e1
  have e2 : decide ((x ^^^ y).toInt < 0) = (decide (x.toInt < 0) ^^ decide (y.toInt < 0)) := e1
  by_cases hx : x.toInt < 0 <;> by_cases hy : y.toInt < 0 <;> by_cases hz : (x ^^^ y).toInt < 0 <;> simp [hx, hy, hz] at e2 ⊢ <;> omega
theorem jn_div {x y : Int64} (hy : 0 < y.toInt) : (x / y).toInt = x.toInt.tdiv y.toInt := by
  apply Int64.toInt_div_of_ne_right
  intro e
  rw [e] at hy
  exact absurd hy (by decide)
theorem jn_floor {x y : Int64} (hy : 0 < y.toInt) : (kFloor x y).toInt = x.toInt / y.toInt := by
  have hd := jn_div (x := x) hy
  have hx1 := Int64.le_toInt x
  have hx2 := Int64.toInt_lt x
  have hm : x.toInt = y.toInt * x.toInt.tdiv y.toInt + x.toInt.tmod y.toInt := (Int.mul_tdiv_add_tmod x.toInt y.toInt).symm
  unfold kFloor
  by_cases hx : 0 ≤ x.toInt
  · rw [if_pos ((jn_xor_neg x y).mpr (by omega)), hd]
    exact Int.tdiv_eq_ediv_of_nonneg hx
  · rw [if_neg (fun h => by have := (jn_xor_neg x y).mp h; omega)]
    have hr1 : x.toInt.tmod y.toInt ≤ 0 := by
      have := Int.tmod_nonneg (a := -x.toInt) y.toInt (by omega)
      rw [Int.neg_tmod] at this
      omega
    have hr2 : -y.toInt < x.toInt.tmod y.toInt := by
      have := Int.tmod_lt_of_pos (-x.toInt) hy
      rw [Int.neg_tmod] at this
      omega
    generalize hq : x.toInt.tdiv y.toInt = q at hd hm
    generalize ht : x.toInt.tmod y.toInt = t at hm hr1 hr2
    have hqx : x.toInt ≤ y.toInt * q := by omega
    have hq0 : q ≤ 0 := by
      rcases Int.lt_or_le 0 q with h | h
      · have : y.toInt * 1 ≤ y.toInt * q := Int.mul_le_mul_of_nonneg_left (by omega) (by omega)
        omega
      · exact h
    have hqy : y.toInt * q ≤ q := by
      have h1 : y.toInt * q ≤ 1 * q := Int.mul_le_mul_of_nonpos_right (by omega) hq0
      omega
    have hqm : x.toInt ≤ q := by omega
    have hmul : (x / y * y).toInt = q * y.toInt := by
      rw [jn_mul, hd]
      · rw [hd, Int.mul_comm]; omega
      · rw [hd, Int.mul_comm]
        have : y.toInt * q ≤ 0 := Int.mul_nonpos_of_nonneg_of_nonpos (by omega) hq0
        omega
    split
    · next he =>
      have h1 := congrArg Int64.toInt he
      rw [hmul] at h1
      rw [hd, ← h1, Int.mul_ediv_cancel _ (by omega)]
    · next he =>
      have ht0 : t ≠ 0 := by
        intro h0
        apply he
        apply Int64.toInt_inj.mp
        rw [hmul, hm, h0, Int.mul_comm]
        omega
      have hs : (x / y - 1).toInt = q - 1 := by
        rw [jn_sub, hd]
        · rfl
        · rw [hd]; show -9223372036854775808 ≤ q - 1; omega
        · rw [hd]; show q - 1 < 9223372036854775808; omega
      rw [hs]
      symm
      rw [Int.ediv_eq_iff_of_pos hy]
      have h5 : (q - 1) * y.toInt = y.toInt * q - y.toInt := by rw [Int.sub_mul, Int.mul_comm]; omega
      constructor <;> omega
/-- rounding to the nearest, halves up -/
theorem jn_round {a b : Int64} (hb : 0 < b.toInt) (ha1 : -2305843009213693952 ≤ a.toInt) (ha2 : a.toInt ≤ 2305843009213693952) (hb2 : b.toInt ≤ 2305843009213693952) : (kRound a b).toInt = (2 * a.toInt + b.toInt) / (2 * b.toInt) := by
  have h2 : (2 : Int64).toInt = 2 := rfl
  have h0 : (0 : Int64).toInt = 0 := rfl
  have e1 : (2 * a).toInt = 2 * a.toInt := by
    rw [jn_mul, h2] <;> rw [h2] <;> omega
  have e2 : (2 * b).toInt = 2 * b.toInt := by
    rw [jn_mul, h2] <;> rw [h2] <;> omega
  have e3 : (2 * a + b).toInt = 2 * a.toInt + b.toInt := by
    rw [jn_add, e1] <;> rw [e1] <;> omega
  unfold kRound
  rw [if_pos (by rw [Int64.lt_iff_toInt_lt, h0]; exact hb), jn_floor (by rw [e2]; omega), e3, e2]
/-- the root, step by step: r is what is found of it, above the k last bits -/
theorem jn_rootL : ∀ (k n : Nat) (v r : Nat) (rest found bit : Int64), k ≤ 31 → k ≤ n → bit.toInt = (if k = 0 then 0 else 4 ^ (k - 1) : Nat) → rest.toInt = (v : Int) - r * r → found.toInt = (r : Int) * ((2 ^ k : Nat) : Int) → r % 2 ^ k = 0 → r * r ≤ v → v < (r + 2 ^ k) * (r + 2 ^ k) → v < 2 ^ 62 →
    ∃ z : Nat, (kRootL (n + 1) rest found bit).toInt = z ∧ z * z ≤ v ∧ v < (z + 1) * (z + 1) := by
  intro k
  induction k with
  | zero =>
    intro n v r rest found bit _ _ hbit hrest hfound _ h1 h2 _
    refine ⟨r, ?_, h1, by simpa using h2⟩
    unfold kRootL
    have h0 : (0 : Int64).toInt = 0 := rfl
    rw [if_pos (by rw [Int64.le_iff_toInt_le, h0, hbit]; simp)]
    simpa using hfound
  | succ k ih =>
    intro n v r rest found bit hk hn hbit hrest hfound hmod h1 h2 hv
    obtain ⟨n', rfl⟩ : ∃ n', n = n' + 1 := ⟨n - 1, by omega⟩
    have hr : r < 2147483648 := by
      rcases Nat.lt_or_ge r 2147483648 with h | h
      · exact h
      · have := Nat.mul_le_mul h h
        omega
    obtain ⟨P, hP⟩ : ∃ P : Nat, P = 2 ^ k := ⟨_, rfl⟩
    have e4 : (4 : Nat) ^ k = P * P := by rw [hP, ← Nat.mul_pow]
    have e2 : (2 : Nat) ^ (k + 1) = 2 * P := by rw [Nat.pow_succ, Nat.mul_comm, hP]
    have hP1 : P ≤ 1073741824 := by rw [hP]; exact Nat.pow_le_pow_right (n := 2) (by decide) (show k ≤ 30 by omega)
    have hP0 : 0 < P := by rw [hP]; exact Nat.two_pow_pos k
    rw [if_neg (by omega), Nat.add_sub_cancel, e4] at hbit
    rw [e2] at hfound hmod h2
    have hbit2 : (bit >>> ((2 : Int32).toInt64 &&& 63)).toInt = ((if k = 0 then 0 else 4 ^ (k - 1) : Nat) : Int) := by
      rw [sq_shr bit _ 2 (by decide), hbit]
      cases k with
      | zero =>
        have : P = 1 := hP
        subst this
        rfl
      | succ j =>
        have e5 : P * P = 4 * 4 ^ j := by rw [← e4, Nat.pow_succ, Nat.mul_comm]
        rw [if_neg (by omega), Nat.add_sub_cancel, e5]
        show ((4 * 4 ^ j : Nat) : Int) / 4 = _
        omega
    have hrP : r * (2 * P) = 2 * (r * P) := Nat.mul_left_comm r 2 P
    have hsf : (found >>> ((1 : Int32).toInt64 &&& 63)).toInt = ((r * P : Nat) : Int) := by
      rw [sq_shr found _ 1 (by decide), hfound]
      have h9 : ((r : Int) * ((2 * P : Nat) : Int)) = ((2 * (r * P) : Nat) : Int) := by rw [← hrP]; simp
      rw [h9]
      show ((2 * (r * P) : Nat) : Int) / 2 = _
      omega
    have hb1 : r * P ≤ 2147483648 * 1073741824 := Nat.mul_le_mul (Nat.le_of_lt hr) hP1
    have hb2 : P * P ≤ 1073741824 * 1073741824 := Nat.mul_le_mul hP1 hP1
    have hf2 : found.toInt = ((2 * (r * P) : Nat) : Int) := by rw [hfound, ← hrP]; simp
    have hfb : (found + bit).toInt = ((2 * (r * P) + P * P : Nat) : Int) := by
      rw [jn_add, hf2, hbit] <;> (try rw [hf2, hbit]) <;> omega
    have hsq : (r + P) * (r + P) = r * r + 2 * (r * P) + P * P := by
      rw [Nat.add_mul, Nat.mul_add, Nat.mul_add, Nat.mul_comm P r]
      omega
    have hrr : rest.toInt = (v : Int) - ((r * r : Nat) : Int) := by rw [hrest]; simp
    have h0 : (0 : Int64).toInt = 0 := rfl
    have hPP : 0 < P * P := Nat.mul_pos hP0 hP0
    unfold kRootL
    rw [if_neg (by rw [Int64.le_iff_toInt_le, h0, hbit]; omega)]
    split
    · next hc =>
      rw [Int64.lt_iff_toInt_lt, hrr, hfb] at hc
      refine ih n' v r rest _ _ (by omega) (by omega) hbit2 hrest (by rw [hsf, ← hP]; simp) ?_ h1 ?_ hv
      · rw [← hP]
        have h7 := Nat.mod_mul_left_mod r 2 P
        rw [hmod] at h7
        simpa using h7.symm
      · rw [← hP, hsq]
        omega
    · next hc =>
      rw [Int64.lt_iff_toInt_lt, hrr, hfb] at hc
      refine ih n' v (r + P) _ _ _ (by omega) (by omega) hbit2 ?_ ?_ ?_ ?_ ?_ hv
      · have h8 : ((r + P : Nat) : Int) * ((r + P : Nat) : Int) = (((r + P) * (r + P) : Nat) : Int) := by simp
        rw [jn_sub, hrr, hfb, h8, hsq] <;> (try rw [hrr, hfb]) <;> omega
      · have h8 : ((r + P : Nat) : Int) * ((2 ^ k : Nat) : Int) = ((r * P + P * P : Nat) : Int) := by rw [← Nat.add_mul, ← hP]; simp
        rw [h8, jn_add, hsf, hbit] <;> (try rw [hsf, hbit]) <;> omega
      · rw [← hP, Nat.add_mod_right]
        have h7 := Nat.mod_mul_left_mod r 2 P
        rw [hmod] at h7
        simpa using h7.symm
      · rw [hsq]
        omega
      · rw [← hP, show r + P + P = r + 2 * P by omega]
        exact h2
/-- the root of a number below 2^62 -/
theorem jn_root {x : Int64} {v : Nat} (hx : x.toInt = (v : Int)) (hv : v < 4611686018427387904) : ∃ z : Nat, (kRoot x).toInt = z ∧ z * z ≤ v ∧ v < (z + 1) * (z + 1) := by
  unfold kRoot
  refine jn_rootL 31 31 v 0 x 0 1152921504606846976 (by decide) (by decide) rfl (by simpa using hx) rfl (by simp) (by simp) ?_ hv
  simp
  omega
