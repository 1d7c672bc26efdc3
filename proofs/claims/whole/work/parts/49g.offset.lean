/-! the dashes in turn: how far they reach, and the one that stands behind the offset -/
def pf (f : Nat → Int) (n : Nat) : Nat → Int
  | 0 => 0
  | i + 1 => pf f n i + f (i % n)
theorem pf_mono {f : Nat → Int} {n : Nat} (hf : ∀ i, 0 ≤ f i) (i : Nat) : ∀ k, pf f n i ≤ pf f n (i + k)
  | 0 => Int.le_refl _
  | k + 1 => by
    have h1 := pf_mono (n := n) hf i k
    have h2 := hf ((i + k) % n)
    show pf f n i ≤ pf f n (i + k) + f ((i + k) % n)
    omega
theorem pf_uniq {f : Nat → Int} {n i j : Nat} {x : Int} (hf : ∀ i, 0 ≤ f i) (h1 : pf f n i ≤ x) (h2 : x < pf f n (i + 1)) (h3 : pf f n j ≤ x) (h4 : x < pf f n (j + 1)) : i = j := by
  rcases Nat.lt_trichotomy i j with h | h | h
  · have h5 := pf_mono (n := n) hf (i + 1) (j - (i + 1))
    rw [show i + 1 + (j - (i + 1)) = j by omega] at h5
    omega
  · exact h
  · have h5 := pf_mono (n := n) hf (j + 1) (i - (j + 1))
    rw [show j + 1 + (i - (j + 1)) = i by omega] at h5
    omega
theorem pf_add {f : Nat → Int} {n : Nat} : ∀ i, pf f n (n + i) = pf f n n + pf f n i
  | 0 => by simp [pf]
  | i + 1 => by
    show pf f n (n + i) + f ((n + i) % n) = pf f n n + (pf f n i + f (i % n))
    rw [pf_add i, Nat.add_mod_left]
    omega
theorem pf_turns {f : Nat → Int} {n i : Nat} : ∀ t : Nat, pf f n (t * n + i) = (t : Int) * pf f n n + pf f n i
  | 0 => by simp
  | t + 1 => by
    rw [show (t + 1) * n + i = n + (t * n + i) by rw [Nat.add_mul]; omega, pf_add, pf_turns t]
    have e : ((t + 1 : Nat) : Int) * pf f n n = (t : Int) * pf f n n + pf f n n := by
      rw [show ((t + 1 : Nat) : Int) = (t : Int) + 1 from rfl, Int.add_mul, Int.one_mul]
    omega
theorem jn_ext (x : Int32) : x.toInt64.toInt = x.toInt := Int32.toInt_toInt64 x
theorem pt_skip_ok {f : Nat → Int32} {m : Int32} {M : Nat} {R : Int} (hm : m.toInt = (M : Int)) (hM8 : M ≤ 8) (hf : ∀ k, 0 ≤ (f k).toInt) (hR : R < pf (fun i => (f i).toInt) M M) : ∀ (n K : Nat) (k : Int32) (z : Int64), k.toInt = (K : Int) → K < M → M ≤ K + n → 0 ≤ z.toInt → pf (fun i => (f i).toInt) M K + z.toInt = R →
    ∃ K' : Nat, (ptSkip f m n k z).1.toInt = (K' : Int) ∧ K' < M ∧ 0 ≤ (ptSkip f m n k z).2.toInt ∧ pf (fun i => (f i).toInt) M K' + (ptSkip f m n k z).2.toInt = R ∧ (ptSkip f m n k z).2.toInt < (f K').toInt
  | 0, K, k, z => fun hk h1 h2 => by omega
  | n + 1, K, k, z => fun hk h1 h2 h3 h4 => by
    have hcl : k.toNatClampNeg = K := by
      show k.toInt.toNat = K
      omega
    have h8 : (7 : Int32).toInt = 7 := rfl
    have hm1 : (m - 1).toInt = (M : Int) - 1 := by rw [sq_pred (by omega), hm]
    have hfb : (f K).toInt64.toInt = (f K).toInt := jn_ext (f K)
    have hfK := hf K
    have hlast : K + 1 = M → z.toInt < (f K).toInt := fun e => by
      subst e
      have e2 : pf (fun i => (f i).toInt) (K + 1) (K + 1) = pf (fun i => (f i).toInt) (K + 1) K + (f (K % (K + 1))).toInt := rfl
      rw [Nat.mod_eq_of_lt (Nat.lt_succ_self K)] at e2
      omega
    unfold ptSkip
    rw [hcl]
    split
    · next hc =>
      rw [Int32.le_iff_toInt_le, hm1, hk] at hc
      exact ⟨K, hk, h1, h3, h4, hlast (by omega)⟩
    · next hc =>
      rw [Int32.le_iff_toInt_le, hm1, hk] at hc
      split
      · next hd =>
        rw [Int32.le_iff_toInt_le, h8, hk] at hd
        omega
      · next hd =>
        split
        · next he =>
          rw [Int64.lt_iff_toInt_lt, hfb] at he
          exact ⟨K, hk, h1, h3, h4, he⟩
        · next he =>
          rw [Int64.lt_iff_toInt_lt, hfb] at he
          have hz := Int64.toInt_lt z
          have hs : (z - (f K).toInt64).toInt = z.toInt - (f K).toInt := by
            rw [jn_sub, hfb] <;> (try rw [hfb]) <;> omega
          have hk1 : (k + 1).toInt = ((K + 1 : Nat) : Int) := by
            rw [sq_succ (by omega) (by omega), hk]
            omega
          have hp : pf (fun i => (f i).toInt) M (K + 1) = pf (fun i => (f i).toInt) M K + (f (K % M)).toInt := rfl
          rw [Nat.mod_eq_of_lt h1] at hp
          exact pt_skip_ok hm hM8 hf hR n (K + 1) (k + 1) (z - (f K).toInt64) hk1 (by omega) (by omega) (by omega) (by omega)
/-- the sum of the first lengths -/
theorem pt_sum_ok {f : Nat → Int32} {m : Int32} {M : Nat} (hm : m.toInt = (M : Int)) (hM8 : M ≤ 8) (hf : ∀ k, 0 ≤ (f k).toInt) (hfb : ∀ k, (f k).toInt ≤ 536870912) : ∀ (n K : Nat) (k : Int32) (z : Int64), k.toInt = (K : Int) → K ≤ M → M < K + n → z.toInt = pf (fun i => (f i).toInt) M K → 0 ≤ z.toInt → z.toInt ≤ 536870912 * (K : Int) →
    (ptSum f m n k z).toInt = pf (fun i => (f i).toInt) M M ∧ 0 ≤ (ptSum f m n k z).toInt ∧ (ptSum f m n k z).toInt ≤ 4294967296
  | 0, K, k, z => fun hk h1 h2 => by omega
  | n + 1, K, k, z => fun hk h1 h2 h3 h4 h5 => by
    have hcl : k.toNatClampNeg = K := by
      show k.toInt.toNat = K
      omega
    have hfK := hf K
    have hfK2 := hfb K
    have hfe : (f K).toInt64.toInt = (f K).toInt := jn_ext (f K)
    unfold ptSum
    rw [hcl]
    split
    · next hc =>
      rw [Int32.le_iff_toInt_le, hm, hk] at hc
      have e : K = M := by omega
      subst e
      exact ⟨h3, h4, by omega⟩
    · next hc =>
      rw [Int32.le_iff_toInt_le, hm, hk] at hc
      have hs : (z + (f K).toInt64).toInt = z.toInt + (f K).toInt := by
        rw [jn_add, hfe] <;> (try rw [hfe]) <;> omega
      have hk1 : (k + 1).toInt = ((K + 1 : Nat) : Int) := by
        rw [sq_succ (by omega) (by omega), hk]
        omega
      have hp : pf (fun i => (f i).toInt) M (K + 1) = pf (fun i => (f i).toInt) M K + (f (K % M)).toInt := rfl
      rw [Nat.mod_eq_of_lt (by omega)] at hp
      exact pt_sum_ok hm hM8 hf hfb n (K + 1) (k + 1) (z + (f K).toInt64) hk1 (by omega) (by omega) (by omega) (by omega) (by omega)
