/-! dashes along a segment are the same on both sides -/
/-- where a segment is cut -/
theorem cut_ok {ax ay bx bz : Int32} {u : Int64} {L : Nat} (h1 : pl29 ax) (h3 : pl29 bx) (hL : (mWkL ax.toInt64 ay.toInt64 bx.toInt64 bz.toInt64).toInt = (L : Int)) (hL1 : 1 ≤ L) (hL2 : L ≤ 2147483647) (hu0 : 0 ≤ u.toInt) (huL : u.toInt ≤ (L : Int)) :
    (ax.toInt64 + mRound ((bx.toInt64 - ax.toInt64) * u) (mWkL ax.toInt64 ay.toInt64 bx.toInt64 bz.toInt64)).toInt32.toInt64 = ax.toInt64 + mRound ((bx.toInt64 - ax.toInt64) * u) (mWkL ax.toInt64 ay.toInt64 bx.toInt64 bz.toInt64) ∧
    pl29 (ax.toInt64 + mRound ((bx.toInt64 - ax.toInt64) * u) (mWkL ax.toInt64 ay.toInt64 bx.toInt64 bz.toInt64)).toInt32 := by
  have ea : ax.toInt64.toInt = ax.toInt := Int32.toInt_toInt64 ax
  have eb : bx.toInt64.toInt = bx.toInt := Int32.toInt_toInt64 bx
  obtain ⟨h1a, h1b⟩ := h1
  obtain ⟨h3a, h3b⟩ := h3
  have ed : (bx.toInt64 - ax.toInt64).toInt = bx.toInt - ax.toInt := by rw [jn_sub (by omega) (by omega), ea, eb]
  have m1 := ar_mul (x := bx.toInt - ax.toInt) (y := u.toInt) (A := 1073741824) (B := (2147483647 : Int)) (by omega) (by omega) (by omega) (by omega)
  have em : ((bx.toInt64 - ax.toInt64) * u).toInt = (bx.toInt - ax.toInt) * u.toInt := by rw [jn_mul (by rw [ed]; omega) (by rw [ed]; omega), ed]
  have er := jn_round (a := (bx.toInt64 - ax.toInt64) * u) (b := mWkL ax.toInt64 ay.toInt64 bx.toInt64 bz.toInt64) (by omega) (by rw [em]; omega) (by rw [em]; omega) (by omega)
  rw [kr_eq (by omega), em, hL] at er
  have hR : (0 ≤ bx.toInt - ax.toInt → 0 ≤ (2 * ((bx.toInt - ax.toInt) * u.toInt) + (L : Int)) / (2 * (L : Int)) ∧ (2 * ((bx.toInt - ax.toInt) * u.toInt) + (L : Int)) / (2 * (L : Int)) ≤ bx.toInt - ax.toInt) ∧ (bx.toInt - ax.toInt ≤ 0 → bx.toInt - ax.toInt ≤ (2 * ((bx.toInt - ax.toInt) * u.toInt) + (L : Int)) / (2 * (L : Int)) ∧ (2 * ((bx.toInt - ax.toInt) * u.toInt) + (L : Int)) / (2 * (L : Int)) ≤ 0) := by
    constructor
    · intro hd
      refine ar_rnd (p := 0) (q := bx.toInt - ax.toInt) (by omega) ?_ (Int.mul_le_mul_of_nonneg_left huL hd)
      rw [Int.zero_mul]
      exact Int.mul_nonneg hd hu0
    · intro hd
      refine ar_rnd (p := bx.toInt - ax.toInt) (q := 0) (by omega) (Int.mul_le_mul_of_nonpos_left hd huL) ?_
      rw [Int.zero_mul]
      exact Int.mul_nonpos_of_nonpos_of_nonneg hd hu0
  generalize (2 * ((bx.toInt - ax.toInt) * u.toInt) + (L : Int)) / (2 * (L : Int)) = R at er hR
  have hR2 : -1073741824 ≤ R ∧ R ≤ 1073741824 := by
    rcases Int.le_total 0 (bx.toInt - ax.toInt) with h | h
    · have := hR.1 h; omega
    · have := hR.2 h; omega
  have hX : (ax.toInt64 + mRound ((bx.toInt64 - ax.toInt64) * u) (mWkL ax.toInt64 ay.toInt64 bx.toInt64 bz.toInt64)).toInt = ax.toInt + R := by
    rw [jn_add (by rw [ea, er]; omega) (by rw [ea, er]; omega), ea, er]
  generalize ax.toInt64 + mRound ((bx.toInt64 - ax.toInt64) * u) (mWkL ax.toInt64 ay.toInt64 bx.toInt64 bz.toInt64) = X at hX ⊢
  have hXb : -536870912 ≤ X.toInt ∧ X.toInt ≤ 536870912 := by
    rcases Int.le_total 0 (bx.toInt - ax.toInt) with h | h
    · have := hR.1 h; omega
    · have := hR.2 h; omega
  have e32 : X.toInt32.toInt = X.toInt := by
    rw [Int64.toInt_toInt32, Int.bmod_def]
    split <;> omega
  refine ⟨Int64.toInt_inj.mp (by rw [Int32.toInt_toInt64, e32]), ?_⟩
  unfold pl29
  rw [e32]
  exact hXb
theorem cut_oky {ax ay bx bz : Int32} {u : Int64} {L : Nat} (h1 : pl29 ay) (h3 : pl29 bz) (hL : (mWkL ax.toInt64 ay.toInt64 bx.toInt64 bz.toInt64).toInt = (L : Int)) (hL1 : 1 ≤ L) (hL2 : L ≤ 2147483647) (hu0 : 0 ≤ u.toInt) (huL : u.toInt ≤ (L : Int)) :
    (ay.toInt64 + mRound ((bz.toInt64 - ay.toInt64) * u) (mWkL ax.toInt64 ay.toInt64 bx.toInt64 bz.toInt64)).toInt32.toInt64 = ay.toInt64 + mRound ((bz.toInt64 - ay.toInt64) * u) (mWkL ax.toInt64 ay.toInt64 bx.toInt64 bz.toInt64) ∧
    pl29 (ay.toInt64 + mRound ((bz.toInt64 - ay.toInt64) * u) (mWkL ax.toInt64 ay.toInt64 bx.toInt64 bz.toInt64)).toInt32 := by
  have e : ∀ p q : Int64, mLenOf p q = mLenOf q p := fun p q => by unfold mLenOf; rw [Int64.add_comm]
  have e2 : mWkL ax.toInt64 ay.toInt64 bx.toInt64 bz.toInt64 = mWkL ay.toInt64 ax.toInt64 bz.toInt64 bx.toInt64 := e _ _
  rw [e2] at hL ⊢
  exact cut_ok h1 h3 hL hL1 hL2 hu0 huL
theorem mMakeR0 (r : MR) : mMakeR 0 r = r := by
  unfold mMakeR
  split
  · rw [if_pos rfl]
  · rfl
theorem mEndR_eq (k : MK) (r : MR) : mEndR k r = (r.1, r.2.1, 0) := by
  unfold mEndR
  rw [mMakeR0]
  split <;> rfl
theorem mTakeK_c (S : MS) (k : MK) : (mTakeK S k).2.1 = k.2.1 ∧ (mTakeK S k).2.2.1 = k.2.2.1 ∧ (mTakeK S k).2.2.2.1 = k.2.2.2.1 ∧ (mTakeK S k).2.2.2.2 = k.2.2.2.2 := by
  unfold mTakeK
  split
  · split <;> exact ⟨rfl, rfl, rfl, rfl⟩
  · exact ⟨rfl, rfl, rfl, rfl⟩
theorem psStop_dead {w : Int32} {P : PS} (h : ¬ P.2.2.2.2 = 0) : psStop w P = P := by
  unfold psStop
  rw [if_neg h]
/-- the walk's numbers on both sides; cnt dashes -/
def WI (k : WK) (mk : MK) (S : MS) (cnt : Int) : Prop :=
  k.2.1 = mk.2.1 ∧ k.2.2.1 = mk.2.2.1 ∧ k.2.2.2 = mk.2.2.2.1 ∧ (mk.2.2.2.1 = 0 ∨ mk.2.2.2.1 = 1) ∧ (0 ≤ mk.2.1.toInt ∧ mk.2.1.toInt < cnt) ∧ (S.2.2.2 = 0 → k.1 = mk.1 ∧ (0 ≤ mk.1.toInt ∧ mk.1.toInt ≤ 20000) ∧ 0 ≤ mk.2.2.1.toInt)
/-- one dash more is taken -/
theorem take_ok {k : WK} {mk : MK} {S : MS} {P : PS} {d : PT} {md : MD} {cnt : Int} (h : WI k mk S cnt) (hal : k.1 = mk.1 ∧ (0 ≤ mk.1.toInt ∧ mk.1.toInt ≤ 20000)) (hP : RI P S) (hd : d.2.1 = md.2.1) (hc : d.2.2.1 = md.2.2.1) (hcn : md.2.2.1.toInt = cnt) (hc8 : cnt ≤ 8) (hln : RLn md.2.1) :
    RI (wkCountP k P) (mTakeS mk S) ∧ WI (wkTake d k) (mNext md (mTakeK S mk)) (mTakeS mk S) cnt ∧ vp_in (mNextD md (mTakeK S mk)) 8 ∧ ((mTakeS mk S).2.2.2 = 0 → (mNext md (mTakeK S mk)).1.toInt = mk.1.toInt + 1) ∧ (wkTake d k).2.2.2 = (mNext md (mTakeK S mk)).2.2.2.1 := by
  obtain ⟨w1, w2, w3, w4, w5, w6⟩ := h
  obtain ⟨c1, c2, c3, c4⟩ := mTakeK_c S mk
  have zt : (20000 : Int32).toInt = 20000 := rfl
  have hlt : (k.1 < 20000) ↔ ¬ mk.1 = 20000 := by
    rw [hal.1, Int32.lt_iff_toInt_lt]
    constructor
    · intro q e
      rw [e] at q
      omega
    · intro q
      have := sq_ne q
      omega
  have hD : mNextD md (mTakeK S mk) = ptBehind k.2.1 d := by
    unfold mNextD ptBehind
    rw [c1, hc, w1]
    have e1 : (mk.2.1 + 1).toInt = mk.2.1.toInt + 1 := sq_succ w5.1 (by omega)
    by_cases hq : mk.2.1 + 1 = md.2.2.1
    · rw [if_pos hq, if_pos (by rw [Int32.le_iff_toInt_le, ← hq]; exact Int.le_refl _)]
    · rw [if_neg hq, if_neg (by rw [Int32.le_iff_toInt_le]; have := sq_ne hq; omega)]
  have hDr : 0 ≤ (mNextD md (mTakeK S mk)).toInt ∧ (mNextD md (mTakeK S mk)).toInt < cnt := by
    unfold mNextD
    rw [c1]
    have e1 : (mk.2.1 + 1).toInt = mk.2.1.toInt + 1 := sq_succ w5.1 (by omega)
    by_cases hq : mk.2.1 + 1 = md.2.2.1
    · rw [if_pos hq]
      have : (0 : Int32).toInt = 0 := rfl
      omega
    · rw [if_neg hq]
      have := sq_ne hq
      omega
  have hL : ptLen (ptBehind k.2.1 d) d = (md.2.1 (mNextD md (mTakeK S mk)).toNatClampNeg).toInt64 := by
    unfold ptLen
    rw [← hD, if_neg (by rw [Int32.lt_iff_toInt_lt]; have : (0 : Int32).toInt = 0 := rfl; omega), if_neg (by rw [Int32.le_iff_toInt_le]; have : (8 : Int32).toInt = 8 := rfl; omega), hd]
  have hwc : (wkCount k).2.1 = k.2.1 ∧ (wkCount k).2.2.2 = k.2.2.2 := by
    unfold wkCount
    split <;> exact ⟨rfl, rfl⟩
  have hgap : (wkTake d k).2.2.2 = (mNext md (mTakeK S mk)).2.2.2.1 := by
    unfold wkTake mNext
    show (if (wkCount k).2.2.2 = 0 then (1 : Int32) else 0) = (if (mTakeK S mk).2.2.2.1 = 0 then 1 else 0)
    rw [hwc.2, c3, w3]
  refine ⟨?_, ?_, sq_in hDr.1 (by omega), ?_, hgap⟩
  · by_cases h0 : S.2.2.2 = 0
    · by_cases hq : mk.1 = 20000
      · have hP0 : P.2.2.2.2 = 0 := hP.1.trans h0
        have e1 : wkCountP k P = (P.1, P.2.1, P.2.2.1, P.2.2.2.1, (-3)) := by
          unfold wkCountP
          rw [if_neg (fun e => hlt.mp e hq)]
          unfold psStop
          rw [if_pos hP0]
        have e2 : mTakeS mk S = (S.1, S.2.1, S.2.2.1, (-3)) := by
          unfold mTakeS
          rw [if_pos h0, if_pos hq]
        rw [e1, e2]
        exact ⟨rfl, hP.2.1, fun hc9 => absurd hc9 (show ¬ ((-3 : Int32) = 0) by decide)⟩
      · have e1 : wkCountP k P = P := by
          unfold wkCountP
          rw [if_pos (hlt.mpr hq)]
        have e2 : mTakeS mk S = S := by
          unfold mTakeS
          rw [if_pos h0, if_neg hq]
        rw [e1, e2]
        exact hP
    · have e1 : wkCountP k P = P := by
        unfold wkCountP
        split
        · rfl
        · exact psStop_dead (hP.alive h0)
      have e2 : mTakeS mk S = S := by
        unfold mTakeS
        rw [if_neg h0]
      rw [e1, e2]
      exact hP
  · refine ⟨?_, ?_, hgap, ?_, hDr, fun h0 => ?_⟩
    · show ptBehind (wkCount k).2.1 d = mNextD md (mTakeK S mk)
      rw [hwc.1, hD]
    · show ptLen (ptBehind (wkCount k).2.1 d) d = (md.2.1 (mNextD md (mTakeK S mk)).toNatClampNeg).toInt64
      rw [hwc.1, hL]
    · show (if (mTakeK S mk).2.2.2.1 = 0 then (1 : Int32) else 0) = 0 ∨ (if (mTakeK S mk).2.2.2.1 = 0 then (1 : Int32) else 0) = 1
      split
      · exact Or.inr rfl
      · exact Or.inl rfl
    · have hS0 : S.2.2.2 = 0 ∧ ¬ mk.1 = 20000 := by
        unfold mTakeS at h0
        split at h0
        · next q1 =>
          split at h0
          · exact absurd h0 (show ¬ ((-3 : Int32) = 0) by decide)
          · next q2 => exact ⟨q1, q2⟩
        · next q1 => exact absurd h0 q1
      have e1 : (mTakeK S mk).1 = mk.1 + 1 := by
        unfold mTakeK
        rw [if_pos hS0.1, if_neg hS0.2]
      have e2 : (wkCount k).1 = k.1 + 1 := by
        unfold wkCount
        rw [if_pos (hlt.mpr hS0.2)]
      have e3 : (mk.1 + 1).toInt = mk.1.toInt + 1 := sq_succ hal.2.1 (by have := hal.2.2; omega)
      have e4 := sq_ne hS0.2
      refine ⟨?_, ?_, ?_⟩
      · show (wkCount k).1 = (mTakeK S mk).1
        rw [e1, e2, hal.1]
      · show 0 ≤ (mTakeK S mk).1.toInt ∧ (mTakeK S mk).1.toInt ≤ 20000
        rw [e1]
        have := hal.2
        omega
      · show 0 ≤ ((md.2.1 (mNextD md (mTakeK S mk)).toNatClampNeg).toInt64).toInt
        rw [Int32.toInt_toInt64]
        exact (hln _).1
  · intro h0
    have hS0 : S.2.2.2 = 0 ∧ ¬ mk.1 = 20000 := by
      unfold mTakeS at h0
      split at h0
      · next q1 =>
        split at h0
        · exact absurd h0 (show ¬ ((-3 : Int32) = 0) by decide)
        · next q2 => exact ⟨q1, q2⟩
      · next q1 => exact absurd h0 q1
    show (mTakeK S mk).1.toInt = mk.1.toInt + 1
    unfold mTakeK
    rw [if_pos hS0.1, if_neg hS0.2]
    exact sq_succ hal.2.1 (by have := hal.2.2; omega)
