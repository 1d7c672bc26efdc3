/-! a segment's numbers are the same on both sides -/
theorem mr_uniq {v z y : Nat} (h1 : z * z ≤ v) (h2 : v < (z + 1) * (z + 1)) (h3 : y * y ≤ v) (h4 : v < (y + 1) * (y + 1)) : z = y := by
  rcases Nat.lt_trichotomy z y with h | h | h
  · have := Nat.mul_le_mul (show z + 1 ≤ y by omega) (show z + 1 ≤ y by omega)
    omega
  · exact h
  · have := Nat.mul_le_mul (show y + 1 ≤ z by omega) (show y + 1 ≤ z by omega)
    omega
theorem mr_rootL {x : Int64} {v : Nat} (hx : x.toInt = (v : Int)) : ∀ (n : Nat) (lo hi : Int64) (a b : Nat), lo.toInt = (a : Int) → hi.toInt = (b : Int) → mRootI n lo hi → a * a ≤ v → v < b * b →
    ∃ z : Nat, (mRootL x n lo hi).toInt = (z : Int) ∧ z * z ≤ v ∧ v < (z + 1) * (z + 1) := by
  intro n
  induction n with
  | zero =>
    intro lo hi a b _ _ h
    obtain ⟨k, e, _⟩ := h
    omega
  | succ n ih =>
    intro lo hi a b ha hb h h1 h2
    unfold mRootL
    split
    · next hc =>
      obtain ⟨k, e, g1, g2, g3⟩ := h
      have g4 : (0 : Int) ≤ ((2 ^ k : Nat) : Int) := Int.natCast_nonneg _
      rw [Int64.le_iff_toInt_le, jn_sub (by omega) (by omega)] at hc
      have e1 : (1 : Int64).toInt = 1 := rfl
      have hk : 0 < 2 ^ k := Nat.pow_pos (by decide)
      have hb2 : b = a + 1 := by
        have g5 : ((2 ^ k : Nat) : Int) ≤ 1 := by omega
        have g6 : 2 ^ k ≤ 1 := by exact_mod_cast g5
        have g7 : 2 ^ k = 1 := by omega
        rw [g7] at g1
        omega
      subst hb2
      exact ⟨a, ha, h1, h2⟩
    · next hc =>
      obtain ⟨m1, m2⟩ := h.mid hc
      obtain ⟨k, e, g1, g2, g3⟩ := m1
      obtain ⟨k2, e2, g4, g5, g6⟩ := m2
      obtain ⟨c, hcn⟩ : ∃ c : Nat, (mMid lo hi).toInt = (c : Int) := ⟨(mMid lo hi).toInt.toNat, by omega⟩
      have g7 : (0 : Int) ≤ ((2 ^ k2 : Nat) : Int) := Int.natCast_nonneg _
      have hc31 : c ≤ 2147483648 := by omega
      have hcc : c * c ≤ 2147483648 * 2147483648 := Nat.mul_le_mul hc31 hc31
      have e3 : ((c * c : Nat) : Int) = (c : Int) * (c : Int) := by simp
      have hmm : (mMid lo hi * mMid lo hi).toInt = ((c * c : Nat) : Int) := by
        rw [jn_mul (by rw [hcn, ← e3]; omega) (by rw [hcn, ← e3]; omega), hcn, e3]
      split
      · next hd =>
        rw [Int64.lt_iff_toInt_lt, hx, hmm] at hd
        exact ih lo (mMid lo hi) a c ha hcn ⟨k, e, g1, g2, g3⟩ h1 (by omega)
      · next hd =>
        rw [Int64.lt_iff_toInt_lt, hx, hmm] at hd
        exact ih (mMid lo hi) hi c b hcn hb ⟨k2, e2, g4, g5, g6⟩ (by omega) h2
theorem mr_root {x : Int64} {v : Nat} (hx : x.toInt = (v : Int)) (hv : v < 4611686018427387904) : mRoot x = kRoot x := by
  obtain ⟨z, h1, h2, h3⟩ := jn_root hx hv
  obtain ⟨y, g1, g2, g3⟩ := mr_rootL hx 32 0 2147483648 0 2147483648 rfl rfl ⟨31, rfl, by decide, by decide, by decide⟩ (by omega) (by omega)
  have e := mr_uniq h2 h3 g2 g3
  subst e
  exact Int64.toInt_inj.mp (g1.trans h1.symm)
/-- a place -/
def pl29 (x : Int32) : Prop := -536870912 ≤ x.toInt ∧ x.toInt ≤ 536870912
theorem pl_of {x : Int32} (h : kPlace x.toInt64 = 1) : pl29 x := by
  unfold kPlace at h
  have e1 : (-536870912 : Int64).toInt = -536870912 := rfl
  have e2 : (536870912 : Int64).toInt = 536870912 := rfl
  have e3 : x.toInt64.toInt = x.toInt := Int32.toInt_toInt64 x
  split at h
  · exact absurd h (by decide)
  · next h1 =>
    split at h
    · exact absurd h (by decide)
    · next h2 =>
      rw [Int64.lt_iff_toInt_lt, e1, e3] at h1
      rw [Int64.lt_iff_toInt_lt, e2, e3] at h2
      exact ⟨by omega, by omega⟩
/-- the length of a way -/
theorem sz_ok {ax ay bx bz : Int32} (h1 : pl29 ax) (h2 : pl29 ay) (h3 : pl29 bx) (h4 : pl29 bz) (hne : ¬ (ax = bx ∧ ay = bz)) :
    mLenOf (bx.toInt64 - ax.toInt64) (bz.toInt64 - ay.toInt64) = kRoot ((bx.toInt64 - ax.toInt64) * (bx.toInt64 - ax.toInt64) + (bz.toInt64 - ay.toInt64) * (bz.toInt64 - ay.toInt64)) ∧
    ∃ z : Nat, (mLenOf (bx.toInt64 - ax.toInt64) (bz.toInt64 - ay.toInt64)).toInt = (z : Int) ∧ 1 ≤ z ∧ z ≤ 2147483647 ∧ (bx.toInt64 - ax.toInt64).toInt = bx.toInt - ax.toInt ∧ (bz.toInt64 - ay.toInt64).toInt = bz.toInt - ay.toInt ∧
      -(z : Int) ≤ bx.toInt - ax.toInt ∧ bx.toInt - ax.toInt ≤ z ∧ -(z : Int) ≤ bz.toInt - ay.toInt ∧ bz.toInt - ay.toInt ≤ z := by
  have ea : ax.toInt64.toInt = ax.toInt := Int32.toInt_toInt64 ax
  have eb : bx.toInt64.toInt = bx.toInt := Int32.toInt_toInt64 bx
  have ec : ay.toInt64.toInt = ay.toInt := Int32.toInt_toInt64 ay
  have ed : bz.toInt64.toInt = bz.toInt := Int32.toInt_toInt64 bz
  obtain ⟨h1a, h1b⟩ := h1
  obtain ⟨h2a, h2b⟩ := h2
  obtain ⟨h3a, h3b⟩ := h3
  obtain ⟨h4a, h4b⟩ := h4
  have edx : (bx.toInt64 - ax.toInt64).toInt = bx.toInt - ax.toInt := by rw [jn_sub (by omega) (by omega), ea, eb]
  have edy : (bz.toInt64 - ay.toInt64).toInt = bz.toInt - ay.toInt := by rw [jn_sub (by omega) (by omega), ec, ed]
  generalize bx.toInt64 - ax.toInt64 = dx at edx ⊢
  generalize bz.toInt64 - ay.toInt64 = dy at edy ⊢
  obtain ⟨z, g1, g2, g3, g4, g5, g6, g7, g8⟩ := ar_len (dx := dx) (dy := dy) (by omega) (by omega) (by omega) (by omega)
  have hx := ar_sq (x := dx.toInt) (A := 1073741824) (by omega) (by omega)
  have hy := ar_sq (x := dy.toInt) (A := 1073741824) (by omega) (by omega)
  have ex : (dx * dx).toInt = dx.toInt * dx.toInt := jn_mul (by omega) (by omega)
  have ey : (dy * dy).toInt = dy.toInt * dy.toInt := jn_mul (by omega) (by omega)
  have es : (dx * dx + dy * dy).toInt = dx.toInt * dx.toInt + dy.toInt * dy.toInt := by
    rw [jn_add, ex, ey] <;> (try rw [ex, ey]) <;> omega
  obtain ⟨v, hv⟩ : ∃ v : Nat, dx.toInt * dx.toInt + dy.toInt * dy.toInt = (v : Int) := ⟨(dx.toInt * dx.toInt + dy.toInt * dy.toInt).toNat, by omega⟩
  have hr : mLenOf dx dy = kRoot (dx * dx + dy * dy) := mr_root (v := v) (by rw [es, hv]) (by omega)
  refine ⟨hr, z, by rw [hr]; exact g1, ?_, g2, edx, edy, by omega, by omega, by omega, by omega⟩
  rcases Nat.eq_zero_or_pos z with h0 | h0
  · exfalso
    subst h0
    have hx0 : dx.toInt = 0 := by omega
    have hy0 : dy.toInt = 0 := by omega
    exact hne ⟨Int32.toInt_inj.mp (by omega), Int32.toInt_inj.mp (by omega)⟩
  · exact h0
theorem sq_2nz {b : Int64} (h : 0 < b.toInt) : ¬ 2 * b = 0 := sq_dbl (by rw [Int64.lt_iff_toInt_lt]; exact h)
theorem kr_eq {a b : Int64} (h : 0 < b.toInt) : kRound a b = mRound a b := by
  unfold kRound mRound
  rw [if_pos (by rw [Int64.lt_iff_toInt_lt]; exact h)]
/-- how far an across or an along reaches -/
theorem kr_bound {dv h sz : Int64} {z H : Nat} (hz : sz.toInt = (z : Int)) (h1 : 1 ≤ z) (h2 : z ≤ 2147483647) (hH : h.toInt = (H : Int)) (hH2 : H ≤ 4194304) (d1 : -(z : Int) ≤ dv.toInt) (d2 : dv.toInt ≤ (z : Int)) :
    -(H : Int) ≤ (mRound (dv * h) sz).toInt ∧ (mRound (dv * h) sz).toInt ≤ (H : Int) := by
  have m1 := ar_mul (x := dv.toInt) (y := (H : Int)) (A := (z : Int)) (B := (H : Int)) d1 d2 (by omega) (by omega)
  have m2 : (z : Int) * (H : Int) ≤ 2147483647 * 4194304 := by
    exact (ar_mul (x := (z : Int)) (y := (H : Int)) (A := 2147483647) (B := 4194304) (by omega) (by omega) (by omega) (by omega)).2
  have em : (dv * h).toInt = dv.toInt * (H : Int) := by rw [jn_mul (by rw [hH]; omega) (by rw [hH]; omega), hH]
  have er := jn_round (a := dv * h) (b := sz) (by omega) (by rw [em]; omega) (by rw [em]; omega) (by omega)
  rw [kr_eq (by omega)] at er
  rw [er, em, hz]
  have e1 : (H : Int) * (z : Int) = (z : Int) * (H : Int) := Int.mul_comm _ _
  exact ar_rnd (a := dv.toInt * (H : Int)) (L := (z : Int)) (p := -(H : Int)) (q := (H : Int)) (by omega) (by rw [Int.neg_mul]; omega) (by omega)
/-- a segment of the class and one of the reference's run -/
def SE (g : SG) (i : Int32) (mt : MT) (m2 : MR) : Prop :=
  g.1 = m2.1 i.toNatClampNeg ∧ g.2.1 = m2.2.1 i.toNatClampNeg ∧ g.2.2.1 = m2.1 (i + 1).toNatClampNeg ∧ g.2.2.2.1 = m2.2.1 (i + 1).toNatClampNeg ∧ g.2.2.2.2.1 = mDx i m2 ∧ g.2.2.2.2.2.1 = mDy i m2 ∧ g.2.2.2.2.2.2.1 = mSz i m2 ∧
  g.2.2.2.2.2.2.2.1 = mAcross i 0 mt m2 ∧ g.2.2.2.2.2.2.2.2.1 = mAcross i 1 mt m2 ∧ g.2.2.2.2.2.2.2.2.2.1 = mAlong i 0 mt m2 ∧ g.2.2.2.2.2.2.2.2.2.2 = mAlong i 1 mt m2 ∧
  (-mt.1.toInt ≤ (mAcross i 0 mt m2).toInt ∧ (mAcross i 0 mt m2).toInt ≤ mt.1.toInt) ∧ (-mt.1.toInt ≤ (mAcross i 1 mt m2).toInt ∧ (mAcross i 1 mt m2).toInt ≤ mt.1.toInt)
theorem se_of {r : RU} {j i : Int32} {mt : MT} {m2 : MR} {ax ay bx bz : Int32} (hh : 1 ≤ mt.1.toInt ∧ mt.1.toInt ≤ 4194304) (e1 : ruX j r = ax) (e2 : ruY j r = ay) (e3 : ruX (j + 1) r = bx) (e4 : ruY (j + 1) r = bz)
    (f1 : m2.1 i.toNatClampNeg = ax.toInt64) (f2 : m2.2.1 i.toNatClampNeg = ay.toInt64) (f3 : m2.1 (i + 1).toNatClampNeg = bx.toInt64) (f4 : m2.2.1 (i + 1).toNatClampNeg = bz.toInt64)
    (h1 : pl29 ax) (h2 : pl29 ay) (h3 : pl29 bx) (h4 : pl29 bz) (hne : ¬ (ax = bx ∧ ay = bz)) (hi : mIx i) : SE (sgMk r j mt.1.toInt64) i mt m2 ∧ mRunS i m2 := by
  obtain ⟨s1, z, s2, s3, s4, s5, s6, s7, s8, s9, s10⟩ := sz_ok h1 h2 h3 h4 hne
  have dX : mDx i m2 = bx.toInt64 - ax.toInt64 := by unfold mDx; rw [f1, f3]
  have dY : mDy i m2 = bz.toInt64 - ay.toInt64 := by unfold mDy; rw [f2, f4]
  have dS : mSz i m2 = mLenOf (bx.toInt64 - ax.toInt64) (bz.toInt64 - ay.toInt64) := by unfold mSz; rw [dX, dY]
  have hpos : 0 < (mLenOf (bx.toInt64 - ax.toInt64) (bz.toInt64 - ay.toInt64)).toInt := by omega
  have eh : mt.1.toInt64.toInt = mt.1.toInt := Int32.toInt_toInt64 mt.1
  obtain ⟨H, hH⟩ : ∃ H : Nat, mt.1.toInt = (H : Int) := ⟨mt.1.toInt.toNat, by omega⟩
  have a0 : mAcross i 0 mt m2 = kRound (-(bz.toInt64 - ay.toInt64) * mt.1.toInt64) (mLenOf (bx.toInt64 - ax.toInt64) (bz.toInt64 - ay.toInt64)) := by
    unfold mAcross
    rw [if_pos rfl, dS, dY, kr_eq hpos]
  have a1 : mAcross i 1 mt m2 = kRound ((bx.toInt64 - ax.toInt64) * mt.1.toInt64) (mLenOf (bx.toInt64 - ax.toInt64) (bz.toInt64 - ay.toInt64)) := by
    unfold mAcross
    rw [if_neg (by decide), dS, dX, kr_eq hpos]
  have l0 : mAlong i 0 mt m2 = kRound ((bx.toInt64 - ax.toInt64) * mt.1.toInt64) (mLenOf (bx.toInt64 - ax.toInt64) (bz.toInt64 - ay.toInt64)) := by
    unfold mAlong
    rw [if_pos rfl, dS, dX, kr_eq hpos]
  have l1 : mAlong i 1 mt m2 = kRound ((bz.toInt64 - ay.toInt64) * mt.1.toInt64) (mLenOf (bx.toInt64 - ax.toInt64) (bz.toInt64 - ay.toInt64)) := by
    unfold mAlong
    rw [if_neg (by decide), dS, dY, kr_eq hpos]
  have eny : (-(bz.toInt64 - ay.toInt64)).toInt = -(bz.toInt - ay.toInt) := by
    rw [jn_neg (by rw [s6]; have := h2.1; have := h4.1; have := h2.2; have := h4.2; omega), s6]
  refine ⟨⟨?_, ?_, ?_, ?_, ?_, ?_, ?_, ?_, ?_, ?_, ?_, ?_, ?_⟩, hi, ?_⟩
  · show (ruX j r).toInt64 = _; rw [e1, f1]
  · show (ruY j r).toInt64 = _; rw [e2, f2]
  · show (ruX (j + 1) r).toInt64 = _; rw [e3, f3]
  · show (ruY (j + 1) r).toInt64 = _; rw [e4, f4]
  · show (ruX (j + 1) r).toInt64 - (ruX j r).toInt64 = _; rw [e1, e3, dX]
  · show (ruY (j + 1) r).toInt64 - (ruY j r).toInt64 = _; rw [e2, e4, dY]
  · show kRoot (((ruX (j + 1) r).toInt64 - (ruX j r).toInt64) * ((ruX (j + 1) r).toInt64 - (ruX j r).toInt64) + ((ruY (j + 1) r).toInt64 - (ruY j r).toInt64) * ((ruY (j + 1) r).toInt64 - (ruY j r).toInt64)) = _
    rw [e1, e2, e3, e4, dS, s1]
  · show kRound (-((ruY (j + 1) r).toInt64 - (ruY j r).toInt64) * mt.1.toInt64) (kRoot (((ruX (j + 1) r).toInt64 - (ruX j r).toInt64) * ((ruX (j + 1) r).toInt64 - (ruX j r).toInt64) + ((ruY (j + 1) r).toInt64 - (ruY j r).toInt64) * ((ruY (j + 1) r).toInt64 - (ruY j r).toInt64))) = _
    rw [e1, e2, e3, e4, a0, s1]
  · show kRound (((ruX (j + 1) r).toInt64 - (ruX j r).toInt64) * mt.1.toInt64) (kRoot (((ruX (j + 1) r).toInt64 - (ruX j r).toInt64) * ((ruX (j + 1) r).toInt64 - (ruX j r).toInt64) + ((ruY (j + 1) r).toInt64 - (ruY j r).toInt64) * ((ruY (j + 1) r).toInt64 - (ruY j r).toInt64))) = _
    rw [e1, e2, e3, e4, a1, s1]
  · show kRound (((ruX (j + 1) r).toInt64 - (ruX j r).toInt64) * mt.1.toInt64) (kRoot (((ruX (j + 1) r).toInt64 - (ruX j r).toInt64) * ((ruX (j + 1) r).toInt64 - (ruX j r).toInt64) + ((ruY (j + 1) r).toInt64 - (ruY j r).toInt64) * ((ruY (j + 1) r).toInt64 - (ruY j r).toInt64))) = _
    rw [e1, e2, e3, e4, l0, s1]
  · show kRound (((ruY (j + 1) r).toInt64 - (ruY j r).toInt64) * mt.1.toInt64) (kRoot (((ruX (j + 1) r).toInt64 - (ruX j r).toInt64) * ((ruX (j + 1) r).toInt64 - (ruX j r).toInt64) + ((ruY (j + 1) r).toInt64 - (ruY j r).toInt64) * ((ruY (j + 1) r).toInt64 - (ruY j r).toInt64))) = _
    rw [e1, e2, e3, e4, l1, s1]
  · rw [a0, kr_eq hpos, hH]
    exact kr_bound s2 s3 s4 (eh.trans hH) (by omega) (by omega) (by omega)
  · rw [a1, kr_eq hpos, hH]
    exact kr_bound s2 s3 s4 (eh.trans hH) (by omega) (by omega) (by omega)
  · rw [dS]
    exact sq_2nz hpos
