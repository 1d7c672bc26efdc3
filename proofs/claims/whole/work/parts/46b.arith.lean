/-! bounds of the numbers that a stroke is made of -/
theorem ar_mul {x y A B : Int} (hx1 : -A ≤ x) (hx2 : x ≤ A) (hy1 : -B ≤ y) (hy2 : y ≤ B) : -(A * B) ≤ x * y ∧ x * y ≤ A * B := by
  have h1 := Int.mul_nonneg (show 0 ≤ A - x by omega) (show 0 ≤ B + y by omega)
  have h2 := Int.mul_nonneg (show 0 ≤ A + x by omega) (show 0 ≤ B - y by omega)
  have h3 := Int.mul_nonneg (show 0 ≤ A - x by omega) (show 0 ≤ B - y by omega)
  have h4 := Int.mul_nonneg (show 0 ≤ A + x by omega) (show 0 ≤ B + y by omega)
  simp only [Int.sub_mul, Int.add_mul, Int.mul_add, Int.mul_sub] at h1 h2 h3 h4
  constructor <;> omega
theorem ar_sq {x A : Int} (hx1 : -A ≤ x) (hx2 : x ≤ A) : 0 ≤ x * x ∧ x * x ≤ A * A := by
  refine ⟨?_, (ar_mul hx1 hx2 hx1 hx2).2⟩
  rcases Int.le_total 0 x with h | h
  · exact Int.mul_nonneg h h
  · have h1 := Int.mul_nonneg (show 0 ≤ -x by omega) (show 0 ≤ -x by omega)
    rw [Int.neg_mul_neg] at h1
    exact h1
theorem ar_lt {x y : Int} (hy : 0 ≤ y) (h : x * x < y * y) : -y < x ∧ x < y := by
  constructor
  · rcases Int.lt_or_le (-y) x with h1 | h1
    · exact h1
    · have h2 := Int.mul_nonneg (show 0 ≤ -x - y by omega) (show 0 ≤ y - x by omega)
      have e : (-x - y) * (y - x) = x * x - y * y := by
        rw [Int.sub_mul, Int.mul_sub, Int.mul_sub, Int.neg_mul, Int.neg_mul, Int.mul_comm y x]
        omega
      omega
  · rcases Int.lt_or_le x y with h1 | h1
    · exact h1
    · have h2 := Int.mul_nonneg (show 0 ≤ x - y by omega) (show 0 ≤ x + y by omega)
      have e : (x - y) * (x + y) = x * x - y * y := by
        rw [Int.sub_mul, Int.mul_add, Int.mul_add, Int.mul_comm y x]
        omega
      omega
/-- a rounded quotient lies where the quotient lies -/
theorem ar_rnd {a L p q : Int} (hL : 0 < L) (h1 : p * L ≤ a) (h2 : a ≤ q * L) : p ≤ (2 * a + L) / (2 * L) ∧ (2 * a + L) / (2 * L) ≤ q := by
  have hL2 : 0 < 2 * L := by omega
  constructor
  · rw [Int.le_ediv_iff_mul_le hL2]
    have e : p * (2 * L) = 2 * (p * L) := Int.mul_left_comm p 2 L
    omega
  · have h3 : (2 * a + L) / (2 * L) < q + 1 := by
      rw [Int.ediv_lt_iff_lt_mul hL2]
      have e : (q + 1) * (2 * L) = 2 * (q * L) + 2 * L := by
        rw [Int.add_mul, Int.one_mul, Int.mul_left_comm]
      omega
    omega
/-- the length of a way that is none -/
theorem ar_len {dx dy : Int64} (h1 : -1073741824 ≤ dx.toInt) (h2 : dx.toInt ≤ 1073741824) (h3 : -1073741824 ≤ dy.toInt) (h4 : dy.toInt ≤ 1073741824) : ∃ z : Nat, (kRoot (dx * dx + dy * dy)).toInt = z ∧ z ≤ 2147483647 ∧ ((z * z : Nat) : Int) ≤ dx.toInt * dx.toInt + dy.toInt * dy.toInt ∧ dx.toInt * dx.toInt + dy.toInt * dy.toInt < (((z + 1) * (z + 1) : Nat) : Int) ∧ -(z : Int) ≤ dx.toInt ∧ dx.toInt ≤ z ∧ -(z : Int) ≤ dy.toInt ∧ dy.toInt ≤ z := by
  have hx := ar_sq h1 h2
  have hy := ar_sq h3 h4
  have ex : (dx * dx).toInt = dx.toInt * dx.toInt := jn_mul (by omega) (by omega)
  have ey : (dy * dy).toInt = dy.toInt * dy.toInt := jn_mul (by omega) (by omega)
  have es : (dx * dx + dy * dy).toInt = dx.toInt * dx.toInt + dy.toInt * dy.toInt := by
    rw [jn_add, ex, ey] <;> (try rw [ex, ey]) <;> omega
  obtain ⟨v, hv⟩ : ∃ v : Nat, dx.toInt * dx.toInt + dy.toInt * dy.toInt = (v : Int) := ⟨(dx.toInt * dx.toInt + dy.toInt * dy.toInt).toNat, by omega⟩
  obtain ⟨z, hz, hz1, hz2⟩ := jn_root (x := dx * dx + dy * dy) (v := v) (by rw [es, hv]) (by omega)
  have e2 : (((z + 1) * (z + 1) : Nat) : Int) = ((z : Int) + 1) * ((z : Int) + 1) := by simp
  have a1 := ar_lt (x := dx.toInt) (y := (z : Int) + 1) (by omega) (by rw [← e2]; omega)
  have a2 := ar_lt (x := dy.toInt) (y := (z : Int) + 1) (by omega) (by rw [← e2]; omega)
  refine ⟨z, hz, ?_, by omega, by omega, by omega, by omega, by omega, by omega⟩
  rcases Nat.lt_or_ge z 2147483648 with h | h
  · omega
  · have := Nat.mul_le_mul h h
    omega
